/**
 * An empire whose letters go on strike. What every call answers is told, promise by promise, in
 * shared/DOC.md; README.md tells how the classes of this file hang together.
 */
public final class LettersOnStrike {
    public static final int NONE = -1;

    /** The answer "for others" of those calls in which NONE already says something. */
    private static final int OTHER = -2;
    private static final int ALPHABET = 26;
    private static final int TOP_SIGN = 9;
    private static final int TOP_WAGE = 99;
    private static final int LAST_DAY = 999;
    private static final int MOST_MORNINGS = 99;

    private final Empire now;
    private final Empire kept;
    /** The image shares these: a text never changes, and the image's are the first of them. */
    private final Text[] texts;
    private final Tape tape;
    private final Reader reader;
    private final Judge judge;
    private final Deeds deeds;
    private final Plans plans;
    private final Puzzles puzzles;
    private final int[] row;

    public LettersOnStrike() {
        now = new Empire();
        kept = new Empire();
        texts = new Text[Empire.MOST_TEXTS];
        for (int i = 0; i < texts.length; i++) {
            texts[i] = new Text();
        }
        tape = new Tape();
        reader = new Reader(tape);
        judge = new Judge(now, texts);
        deeds = new Deeds(now, judge);
        plans = new Plans(now);
        puzzles = new Puzzles(now);
        row = new int[Lexicon.LONGEST];
    }

    public boolean tie(int letter, int to) {
        if (!isLetter(letter) || !isLetter(to) || letter == to) {
            return false;
        }
        return now.tieAll(1 << letter, 1 << to);
    }

    public int word(int one, int other, int sense) {
        int n = 0;
        boolean ended = false;
        for (int i = 0; i < Lexicon.LONGEST; i++) {
            int c = ((i < 4 ? one : other) >>> (8 * (i % 4))) & 255;
            if (c == 0) {
                ended = true;
            } else if (ended || c < 'a' || c > 'z') {
                return NONE;
            } else {
                row[n] = c - 'a';
                n++;
            }
        }
        return now.lexicon.tellWord(row, 0, n, sense);
    }

    public int saying(int senses) {
        if (senses < 10 || senses > 199999999) {
            return NONE;
        }
        int n = 0;
        int head = senses;
        for (int i = 0; i < Lexicon.MOST_SENSES && head >= 10; i++) {
            head /= 10;
            n++;
        }
        if (head != 1) {
            return NONE;
        }
        int rest = senses;
        for (int i = n - 1; i >= 0; i--) {
            row[i] = rest % 10;
            rest /= 10;
        }
        return now.lexicon.tellSaying(row, 0, n);
    }

    public int feed(int a, int b, int c, int d, int e) {
        if (!tape.hasRoom(20)) {
            return NONE;
        }
        tape.put(a);
        tape.put(b);
        tape.put(c);
        tape.put(d);
        tape.put(e);
        return tape.size;
    }

    public int end(int n) {
        if (n < 0 || n > tape.size) {
            return NONE;
        }
        tape.size = n;
        return n;
    }

    public int text() {
        if (now.texts < 0 || now.texts >= texts.length) {
            return NONE;
        }
        boolean good = reader.read(texts[now.texts]);
        tape.size = 0;
        if (!good) {
            return NONE;
        }
        now.texts++;
        return now.texts - 1;
    }

    public int fault(int what) {
        if (!reader.hasRead) {
            return NONE;
        }
        return what == 0 ? reader.fault : what == 1 ? reader.place : NONE;
    }

    public boolean by(int text) {
        if (text != NONE && !isText(text)) {
            return false;
        }
        now.ruling = text;
        return true;
    }

    public int morning(int n) {
        if (n < 1 || n > MOST_MORNINGS || now.standing.day + n > LAST_DAY) {
            return NONE;
        }
        deeds.passMornings(n);
        return now.standing.outs();
    }

    public int strike(int letters) {
        int n = isSet(letters) ? deeds.callOut(letters) : 0;
        return n > 0 ? n : NONE;
    }

    public int comeBack(int letters) {
        int n = isSet(letters) ? deeds.callBack(letters) : 0;
        return n > 0 ? n : NONE;
    }

    public boolean raise(int letter, int wage) {
        return isLetter(letter) && wage >= 0 && wage <= TOP_WAGE && deeds.setWage(letter, wage);
    }

    public boolean sign(int letter, int sign) {
        return isLetter(letter) && sign >= NONE && sign <= TOP_SIGN && deeds.putSign(letter, sign);
    }

    public int contract(int saying) {
        return deeds.conclude(saying);
    }

    public int played(int text) {
        return isText(text) ? deeds.play(texts[text]) : OTHER;
    }

    public int year(int seed, int n) {
        if (seed < 0 || seed > 9999 || n < 1 || n > 40) {
            return NONE;
        }
        deeds.liveYear(seed, n);
        return now.standing.outs();
    }

    public int undo() {
        return now.history.takeBack(now.standing) ? now.history.count : NONE;
    }

    public int of(int letter, int what) {
        if (!isLetter(letter)) {
            return OTHER;
        }
        switch (what) {
            case 0: return now.standing.wage[letter];
            case 1: return now.standing.since[letter];
            case 2: return now.standing.isOut(letter) ? 1 : 0;
            case 3: return now.standing.sign[letter];
            case 4: return now.ties[letter];
            case 5: return now.lexicon.uses(letter);
            case 6: return judge.moves(letter) ? 1 : 0;
            default: return OTHER;
        }
    }

    public int ofWord(int word, int what) {
        if (!now.lexicon.isWord(word)) {
            return NONE;
        }
        switch (what) {
            case 0: return now.lexicon.length[word];
            case 1: return now.lexicon.sense[word];
            case 2: return now.lexicon.mask[word];
            case 3: return (now.lexicon.mask[word] & now.standing.missing()) == 0 ? 1 : 0;
            default: return what < 10 ? NONE : now.lexicon.letterAt(word, what - 10);
        }
    }

    public int ofSaying(int saying, int what) {
        if (!now.lexicon.isSaying(saying)) {
            return NONE;
        }
        if (what == 0) {
            return now.lexicon.senses[saying];
        }
        return what < 10 ? NONE : now.lexicon.senseAt(saying, what - 10);
    }

    public boolean mistaken(int word, int other) {
        Lexicon lexicon = now.lexicon;
        if (!lexicon.isWord(word) || !lexicon.isWord(other) || word == other) {
            return false;
        }
        return puzzles.alikeNow(word, other);
    }

    public int said(int saying, int letters, int i) {
        Lexicon lexicon = now.lexicon;
        boolean rightSet = letters == NONE || letters == 0 || isSet(letters);
        if (!rightSet || i < NONE || !lexicon.isSaying(saying)) {
            return NONE;
        }
        int missing = letters == NONE ? now.standing.missing() : letters;
        if (!lexicon.canSay(saying, missing)) {
            return NONE;
        }
        if (i == NONE) {
            return lexicon.lettersSaid(saying, missing);
        }
        return lexicon.wordSaid(saying, i, missing);
    }

    public int dear(int saying) {
        int missing = now.standing.missing();
        if (!now.lexicon.canSay(saying, missing)) {
            return NONE;
        }
        int sum = 0;
        for (int i = 0; i < now.lexicon.senses[saying]; i++) {
            sum += judge.price(now.lexicon.wordSaid(saying, i, missing));
        }
        return sum;
    }

    public int stop(int saying) {
        return now.lexicon.isSaying(saying) ? plans.fewestStopping(saying) : NONE;
    }

    public int spared(boolean many) {
        int worst = 0;
        int most = NONE;
        for (int letter = 0; letter < ALPHABET; letter++) {
            int unsaid = now.lexicon.unsaid(1 << letter);
            if (unsaid > most) {
                most = unsaid;
                worst = letter;
            }
        }
        return many ? most : worst;
    }

    public int power(int saying, int group, int letter, boolean low) {
        if (!now.lexicon.isSaying(saying) || !isSet(group) || !isLetter(letter)) {
            return NONE;
        }
        if ((group >> letter & 1) == 0 || Integer.bitCount(group) > Plans.MOST_GROUP) {
            return NONE;
        }
        int upper = plans.pivotalOrders(saying, group, letter);
        int lower = plans.orders(group);
        int common = greatestDivisor(upper, lower);
        if (common <= 0) {
            return NONE;
        }
        return (low ? lower : upper) / common;
    }

    public int party(int letters) {
        if (letters == NONE) {
            now.parties = 0;
            return 0;
        }
        if (!isSet(letters) || now.parties >= Empire.MOST_PARTIES) {
            return OTHER;
        }
        now.party[now.parties] = letters;
        now.parties++;
        return now.parties;
    }

    public int worth(int parties) {
        if (parties < 0 || parties >= 1 << now.parties) {
            return NONE;
        }
        return plans.worthOf(parties);
    }

    public int core(int p, int party) {
        if (p < 0 || p > 30 || party < 0 || party >= now.parties) {
            return NONE;
        }
        return plans.findCore(p) ? plans.shares[party] : NONE;
    }

    public int game(int saying, int letters, boolean first) {
        if (!isSet(letters) || Integer.bitCount(letters) > Plans.MOST_GROUP) {
            return OTHER;
        }
        if (!now.lexicon.canSay(saying, 0)) {
            return OTHER;
        }
        int call = plans.winningCall(saying, letters);
        return first ? call : call == NONE ? 0 : 1;
    }

    public int signsFor(int letters, int letter) {
        if (!isSet(letters) || Integer.bitCount(letters) > Puzzles.MOST_SIGNED) {
            return NONE;
        }
        if (letter != NONE && (!isLetter(letter) || (letters >> letter & 1) == 0)) {
            return NONE;
        }
        int fewest = puzzles.fewestSigns(letters);
        return letter == NONE || fewest == NONE ? fewest : puzzles.look[letter];
    }

    public int settlement(int letters, int i) {
        if (!isSet(letters) || i < NONE || i >= Puzzles.MOST_SETTLED) {
            return NONE;
        }
        int together = puzzles.settle(letters);
        return i == NONE || together == NONE ? together : puzzles.settled[i];
    }

    public int learn(int k, boolean words) {
        if (k < 1 || k > 4) {
            return NONE;
        }
        puzzles.learnFirst(k);
        return words ? puzzles.mostWords : puzzles.bestLetters;
    }

    public int hair(int word, int i) {
        if (!now.lexicon.isWord(word)) {
            return NONE;
        }
        int seen = 0;
        for (int other = 0; other < now.lexicon.words; other++) {
            if (now.lexicon.placesUnlike(word, other) == 1) {
                if (seen == i) {
                    return other;
                }
                seen++;
            }
        }
        return i == NONE ? seen : NONE;
    }

    public int printed(int word, int day, boolean was) {
        if (word == NONE) {
            now.prints = 0;
            return 0;
        }
        if (!now.lexicon.isWord(word) || day < 0 || day >= Puzzles.DAYS) {
            return OTHER;
        }
        if (now.prints >= Empire.MOST_PRINTS) {
            return OTHER;
        }
        now.printWord[now.prints] = word;
        now.printDay[now.prints] = day;
        now.printWas[now.prints] = was ? 1 : 0;
        now.prints++;
        return now.prints;
    }

    public int spells(int letter, int i) {
        return isLetter(letter) && i >= NONE ? puzzles.spell(letter, i) : OTHER;
    }

    public int signed(int i, int what) {
        int contracts = now.standing.contracts;
        if (i == NONE) {
            return contracts;
        }
        if (i < 0 || i >= contracts || i >= Contracts.MOST) {
            return OTHER;
        }
        switch (what) {
            case 0: return now.contracts.saying[i];
            case 1: return now.contracts.day[i];
            case 2: return now.contracts.words[i];
            case 3: return judge.binds(i, NONE) ? 1 : 0;
            case 4: return judge.broken(i, now.standing.missing());
            case 5: return judge.loophole(i);
            default:
                int word = what < 10 ? NONE : now.contracts.wordAt(i, what - 10);
                return word == NONE ? OTHER : word;
        }
    }

    public int image() {
        kept.copyFrom(now);
        return now.standing.day;
    }

    public int back() {
        now.copyFrom(kept);
        return now.standing.day;
    }

    public int about(int what) {
        switch (what) {
            case 0: return now.lexicon.words;
            case 1: return now.lexicon.sayings;
            case 2: return now.standing.day;
            case 3: return now.standing.x;
            case 4: return now.texts;
            case 5: return now.ruling;
            case 6: return now.history.count;
            case 7: return now.standing.out;
            case 8: return now.parties;
            case 9: return now.prints;
            case 10: return tape.size;
            case 11: return now.standing.outs();
            default: return OTHER;
        }
    }

    private boolean isText(int text) {
        return text >= 0 && text < now.texts && text < texts.length;
    }

    private static boolean isLetter(int letter) {
        return letter >= 0 && letter < ALPHABET;
    }

    private static boolean isSet(int letters) {
        return letters > 0 && letters < 1 << ALPHABET;
    }

    private static int greatestDivisor(int a, int b) {
        int x = a;
        int y = b;
        for (int i = 0; i < 64 && y != 0; i++) {
            int rest = x % y;
            x = y;
            y = rest;
        }
        return x;
    }

    /** The words and the sayings: both are only ever told, never changed. */
    static final class Lexicon {
        static final int MOST_WORDS = 24;
        static final int LONGEST = 8;
        static final int MOST_SAYINGS = 8;
        static final int MOST_SENSES = 8;
        static final int TOP_SENSE = 9;

        int words;
        int sayings;
        final int[] length = new int[MOST_WORDS];
        final int[] sense = new int[MOST_WORDS];
        final int[] mask = new int[MOST_WORDS];
        final int[] spelling = new int[MOST_WORDS * LONGEST];
        final int[] senses = new int[MOST_SAYINGS];
        /** Per saying the bits of its senses: all that counts for whether it can be said. */
        final int[] wanted = new int[MOST_SAYINGS];
        final int[] order = new int[MOST_SAYINGS * MOST_SENSES];

        void copyFrom(Lexicon other) {
            words = other.words;
            sayings = other.sayings;
            System.arraycopy(other.length, 0, length, 0, MOST_WORDS);
            System.arraycopy(other.sense, 0, sense, 0, MOST_WORDS);
            System.arraycopy(other.mask, 0, mask, 0, MOST_WORDS);
            System.arraycopy(other.spelling, 0, spelling, 0, MOST_WORDS * LONGEST);
            System.arraycopy(other.senses, 0, senses, 0, MOST_SAYINGS);
            System.arraycopy(other.wanted, 0, wanted, 0, MOST_SAYINGS);
            System.arraycopy(other.order, 0, order, 0, MOST_SAYINGS * MOST_SENSES);
        }

        boolean isWord(int word) {
            return word >= 0 && word < words && word < MOST_WORDS;
        }

        boolean isSaying(int saying) {
            return saying >= 0 && saying < sayings && saying < MOST_SAYINGS;
        }

        int letterAt(int word, int i) {
            return isWord(word) && i >= 0 && i < length[word] ? spelling[word * LONGEST + i] : NONE;
        }

        int senseAt(int saying, int i) {
            return isSaying(saying) && i >= 0 && i < senses[saying]
                ? order[saying * MOST_SENSES + i] : NONE;
        }

        int tellWord(int[] row, int from, int n, int meaning) {
            if (n < 1 || n > LONGEST || from < 0 || from + n > row.length) {
                return NONE;
            }
            if (meaning < 0 || meaning > TOP_SENSE || words >= MOST_WORDS) {
                return NONE;
            }
            if (isTold(row, from, n)) {
                return NONE;
            }
            int set = 0;
            for (int i = 0; i < n; i++) {
                spelling[words * LONGEST + i] = row[from + i];
                set |= 1 << row[from + i];
            }
            length[words] = n;
            sense[words] = meaning;
            mask[words] = set;
            words++;
            return words - 1;
        }

        private boolean isTold(int[] row, int from, int n) {
            for (int word = 0; word < words; word++) {
                int same = 0;
                for (int i = 0; i < n && from + i < row.length; i++) {
                    same += letterAt(word, i) == row[from + i] ? 1 : 0;
                }
                if (same == n && length[word] == n) {
                    return true;
                }
            }
            return false;
        }

        int tellSaying(int[] row, int from, int n) {
            if (n < 1 || n > MOST_SENSES || from < 0 || from + n > row.length) {
                return NONE;
            }
            if (sayings >= MOST_SAYINGS) {
                return NONE;
            }
            int set = 0;
            for (int i = 0; i < n; i++) {
                order[sayings * MOST_SENSES + i] = row[from + i];
                set |= 1 << row[from + i];
            }
            senses[sayings] = n;
            wanted[sayings] = set;
            sayings++;
            return sayings - 1;
        }

        int uses(int letter) {
            int n = 0;
            for (int word = 0; word < words; word++) {
                n += mask[word] >> letter & 1;
            }
            return n;
        }

        /** The fewest letters first, of like ones the lowest. */
        int wordFor(int meaning, int missing) {
            int best = NONE;
            for (int word = 0; word < words; word++) {
                if (sense[word] == meaning && (mask[word] & missing) == 0
                    && (best == NONE || length[word] < length[best])) {
                    best = word;
                }
            }
            return best;
        }

        int wordSaid(int saying, int i, int missing) {
            int meaning = senseAt(saying, i);
            return meaning == NONE ? NONE : wordFor(meaning, missing);
        }

        int lettersSaid(int saying, int missing) {
            int sum = 0;
            for (int i = 0; i < senses[saying]; i++) {
                int word = wordSaid(saying, i, missing);
                sum += isWord(word) ? length[word] : 0;
            }
            return sum;
        }

        /** The senses (bits) that have a word without any letter that is missing. */
        private int sensesLeft(int missing) {
            int left = 0;
            for (int word = 0; word < words; word++) {
                if ((mask[word] & missing) == 0) {
                    left |= 1 << sense[word];
                }
            }
            return left;
        }

        boolean canSay(int saying, int missing) {
            return isSaying(saying) && (wanted[saying] & ~sensesLeft(missing)) == 0;
        }

        /** How many sayings can't be said. */
        int unsaid(int missing) {
            int left = sensesLeft(missing);
            int n = 0;
            for (int saying = 0; saying < sayings; saying++) {
                n += (wanted[saying] & ~left) != 0 ? 1 : 0;
            }
            return n;
        }

        /** The letters of all words whose sense is among these bits. */
        int lettersFor(int meanings) {
            int set = 0;
            for (int word = 0; word < words; word++) {
                set |= (meanings >> sense[word] & 1) != 0 ? mask[word] : 0;
            }
            return set;
        }

        /** At how many places two words have unlike letters; NONE if they are not as long. */
        int placesUnlike(int word, int other) {
            if (!isWord(word) || !isWord(other) || length[word] != length[other]) {
                return NONE;
            }
            int n = 0;
            for (int i = 0; i < length[word]; i++) {
                n += letterAt(word, i) != letterAt(other, i) ? 1 : 0;
            }
            return n;
        }
    }

    /** All that a step can change and undo brings back. */
    static final class Standing {
        int out;
        int day;
        int x = 17;
        int contracts;
        final int[] wage = new int[ALPHABET];
        final int[] since = new int[ALPHABET];
        final int[] sign = new int[ALPHABET];

        Standing() {
            for (int letter = 0; letter < ALPHABET; letter++) {
                wage[letter] = 1;
                sign[letter] = NONE;
            }
        }

        void copyFrom(Standing other) {
            out = other.out;
            day = other.day;
            x = other.x;
            contracts = other.contracts;
            System.arraycopy(other.wage, 0, wage, 0, ALPHABET);
            System.arraycopy(other.since, 0, since, 0, ALPHABET);
            System.arraycopy(other.sign, 0, sign, 0, ALPHABET);
        }

        boolean isOut(int letter) {
            return (out >> letter & 1) != 0;
        }

        int outs() {
            return Integer.bitCount(out);
        }

        /** The letters that are out without a sign: no word with one of them can be written. */
        int missing() {
            int set = out;
            for (int letter = 0; letter < ALPHABET; letter++) {
                if (sign[letter] != NONE) {
                    set &= ~(1 << letter);
                }
            }
            return set;
        }

        /** These walk out, if they were in, or come back, if they were out. */
        void move(int letters) {
            out ^= letters;
            for (int letter = 0; letter < ALPHABET; letter++) {
                if ((letters >> letter & 1) != 0) {
                    since[letter] = 0;
                }
            }
        }
    }

    /** How all stood ahead of the latest steps, in a ring: a further step drops the eldest. */
    static final class History {
        static final int MOST = 30;

        int count;
        private int eldest;
        private final Standing[] steps = new Standing[MOST];

        History() {
            for (int i = 0; i < MOST; i++) {
                steps[i] = new Standing();
            }
        }

        void copyFrom(History other) {
            count = other.count;
            eldest = other.eldest;
            for (int i = 0; i < MOST; i++) {
                steps[i].copyFrom(other.steps[i]);
            }
        }

        void keep(Standing standing) {
            if (count == MOST) {
                eldest = (eldest + 1) % MOST;
                count--;
            }
            steps[(eldest + count) % MOST].copyFrom(standing);
            count++;
        }

        boolean takeBack(Standing into) {
            if (count <= 0) {
                return false;
            }
            count--;
            into.copyFrom(steps[(eldest + count) % MOST]);
            return true;
        }
    }

    /** The contracts' rows; how many of them stand is in the standing, for undo. */
    static final class Contracts {
        static final int MOST = 10;

        final int[] saying = new int[MOST];
        final int[] day = new int[MOST];
        final int[] words = new int[MOST];
        final int[] word = new int[MOST * Lexicon.MOST_SENSES];

        void copyFrom(Contracts other) {
            System.arraycopy(other.saying, 0, saying, 0, MOST);
            System.arraycopy(other.day, 0, day, 0, MOST);
            System.arraycopy(other.words, 0, words, 0, MOST);
            System.arraycopy(other.word, 0, word, 0, MOST * Lexicon.MOST_SENSES);
        }

        int wordAt(int contract, int k) {
            if (contract < 0 || contract >= MOST || k < 0 || k >= words[contract]) {
                return NONE;
            }
            return word[contract * Lexicon.MOST_SENSES + k];
        }
    }

    /** All that an image keeps. */
    static final class Empire {
        static final int MOST_TEXTS = 4;
        static final int MOST_PARTIES = 4;
        static final int MOST_PRINTS = 12;

        final Lexicon lexicon = new Lexicon();
        final Standing standing = new Standing();
        final History history = new History();
        final Contracts contracts = new Contracts();
        final int[] ties = new int[ALPHABET];
        int texts;
        int ruling = NONE;
        int parties;
        final int[] party = new int[MOST_PARTIES];
        int prints;
        final int[] printWord = new int[MOST_PRINTS];
        final int[] printDay = new int[MOST_PRINTS];
        final int[] printWas = new int[MOST_PRINTS];

        void copyFrom(Empire other) {
            lexicon.copyFrom(other.lexicon);
            standing.copyFrom(other.standing);
            history.copyFrom(other.history);
            contracts.copyFrom(other.contracts);
            System.arraycopy(other.ties, 0, ties, 0, ALPHABET);
            texts = other.texts;
            ruling = other.ruling;
            parties = other.parties;
            System.arraycopy(other.party, 0, party, 0, MOST_PARTIES);
            prints = other.prints;
            System.arraycopy(other.printWord, 0, printWord, 0, MOST_PRINTS);
            System.arraycopy(other.printDay, 0, printDay, 0, MOST_PRINTS);
            System.arraycopy(other.printWas, 0, printWas, 0, MOST_PRINTS);
        }

        /** Ties each of these to each of those but itself; whether any tie is new. */
        boolean tieAll(int letters, int to) {
            boolean anyNew = false;
            for (int letter = 0; letter < ALPHABET; letter++) {
                if ((letters >> letter & 1) != 0) {
                    int all = ties[letter] | to & ~(1 << letter);
                    anyNew |= all != ties[letter];
                    ties[letter] = all;
                }
            }
            return anyNew;
        }
    }

    /** A text that was read: its clauses, and its laws with the operands ahead of operations. */
    static final class Text {
        static final int MOST_CLAUSES = 24;
        static final int LAWS = 4;
        /** Code below this is a number, from this on a name, from OPERATION on an operation. */
        static final int NAME = 10000;
        static final int OPERATION = 20000;

        int clauses;
        final int[] kind = new int[MOST_CLAUSES];
        final int[] letters = new int[MOST_CLAUSES];
        final int[] others = new int[MOST_CLAUSES];
        final int[] number = new int[MOST_CLAUSES];
        final int[] rowLength = new int[MOST_CLAUSES];
        /** The letters of a word, or the senses of a saying, in their order. */
        final int[] row = new int[MOST_CLAUSES * Lexicon.LONGEST];
        final int[] lawFrom = new int[LAWS];
        final int[] lawEnd = new int[LAWS];
        int codes;
        final int[] code = new int[Tape.MOST];

        void clear() {
            clauses = 0;
            codes = 0;
            for (int law = 0; law < LAWS; law++) {
                lawFrom[law] = NONE;
                lawEnd[law] = NONE;
            }
        }

        boolean has(int law) {
            return law >= 0 && law < LAWS && lawFrom[law] != NONE;
        }

        void begin(int what) {
            if (clauses < MOST_CLAUSES) {
                kind[clauses] = what;
                rowLength[clauses] = 0;
                clauses++;
            }
        }

        void emit(int value) {
            if (codes < Tape.MOST) {
                code[codes] = value;
                codes++;
            }
        }

        void addToRow(int clause, int value) {
            if (clause >= 0 && clause < clauses && rowLength[clause] < Lexicon.LONGEST) {
                row[clause * Lexicon.LONGEST + rowLength[clause]] = value;
                rowLength[clause]++;
            }
        }
    }

    /** The bytes that were fed, and the tokens that they are cut into. */
    static final class Tape {
        static final int MOST = 300;
        static final int TOP_NUMBER = 9999;

        static final int END = 0;
        static final int LETTERS = 1;
        static final int NUMBER = 2;
        static final int SYMBOL = 3;
        static final int BAD = 4;
        /** What < and > have more, if = stands right behind them. */
        static final int WITH_EQUAL = 256;

        /** All words of the language, each with a blank behind it: a key is a place in here. */
        private static final String KEYS = "joins returns price binds word say tie strike back raise sign contract morning means to by as none or and not day outs letter wage since vowel tied uses length sense signs broken many days ";
        static final int WORD = 4;
        static final int SAY = 5;
        static final int TIE = 6;
        static final int STRIKE = 7;
        static final int BACK = 8;
        static final int RAISE = 9;
        static final int SIGN = 10;
        static final int CONTRACT = 11;
        static final int MORNING = 12;
        static final int MEANS = 13;
        static final int TO = 14;
        static final int BY = 15;
        static final int AS = 16;
        static final int NO_SIGN = 17;
        static final int OR = 18;
        static final int AND = 19;
        static final int NOT = 20;
        static final int FIRST_NAME = 21;

        int size;
        final int[] bytes = new int[MOST];
        int tokens;
        final int[] kind = new int[MOST + 1];
        final int[] place = new int[MOST + 1];
        final int[] length = new int[MOST + 1];
        /** A number (one too large is TOP_NUMBER + 1), a symbol's byte or a key (NONE: none). */
        final int[] value = new int[MOST + 1];

        boolean hasRoom(int n) {
            return size + n <= MOST;
        }

        void put(int four) {
            for (int shift = 24; shift >= 0; shift -= 8) {
                if (size < MOST) {
                    bytes[size] = four >>> shift & 255;
                    size++;
                }
            }
        }

        void cut() {
            tokens = 0;
            int end = 0;
            for (int at = 0; at < size; at++) {
                if (at >= end && bytes[at] != ' ' && bytes[at] != '\n') {
                    end = cutOne(at);
                }
            }
            add(END, size, size, 0);
        }

        private int cutOne(int at) {
            int end = at + 1;
            if (isLetterByte(bytes[at])) {
                for (; end < size && isLetterByte(bytes[end]); end++) { }
                add(LETTERS, at, end, keyOf(at, end));
            } else if (isDigit(bytes[at])) {
                int n = bytes[at] - '0';
                for (; end < size && isDigit(bytes[end]); end++) {
                    n = Math.min(10 * n + bytes[end] - '0', TOP_NUMBER + 1);
                }
                add(NUMBER, at, end, n);
            } else {
                boolean known = "<>=#+-*/(),;".indexOf((char) bytes[at]) >= 0;
                boolean wide = (bytes[at] == '<' || bytes[at] == '>')
                    && end < size && bytes[end] == '=';
                end += wide ? 1 : 0;
                add(known ? SYMBOL : BAD, at, end, bytes[at] + (wide ? WITH_EQUAL : 0));
            }
            return end;
        }

        private void add(int what, int from, int end, int worth) {
            if (tokens <= MOST) {
                kind[tokens] = what;
                place[tokens] = from;
                length[tokens] = end - from;
                value[tokens] = worth;
                tokens++;
            }
        }

        private int keyOf(int from, int end) {
            int key = 0;
            int same = 0;
            boolean alike = true;
            for (int i = 0; i < KEYS.length(); i++) {
                char c = KEYS.charAt(i);
                if (c == ' ') {
                    if (alike && from + same == end) {
                        return key;
                    }
                    key++;
                    same = 0;
                    alike = true;
                } else {
                    alike = alike && from + same < end && bytes[from + same] == c;
                    same++;
                }
            }
            return NONE;
        }

        private static boolean isLetterByte(int c) {
            return c >= 'a' && c <= 'z' || c >= 'A' && c <= 'Z';
        }

        private static boolean isDigit(int c) {
            return c >= '0' && c <= '9';
        }
    }

    /** Reads the tape as a text, token by token, up to its first fault. */
    static final class Reader {
        private static final int MISPLACED = 1;
        private static final int WRONG_NUMBER = 2;
        private static final int TOO_DEEP = 3;
        private static final int LAW_AGAIN = 4;
        private static final int WRONG_NAME = 5;
        private static final int TOO_MANY_CLAUSES = 6;
        private static final int WRONG_LETTERS = 7;
        private static final int TOO_MANY_SENSES = 8;
        private static final int DEEPEST = 8;

        private final Tape tape;
        private Text text;
        private int at;
        /** The token at this place of the tape's, and its value. */
        private int kind;
        private int value;
        private int start;
        private int clause;
        boolean hasRead;
        int fault;
        int place;

        Reader(Tape tape) {
            this.tape = tape;
        }

        boolean read(Text into) {
            if (into == null) {
                return false;
            }
            text = into;
            text.clear();
            hasRead = true;
            fault = 0;
            place = NONE;
            tape.cut();
            at = NONE;
            next();
            for (int i = 0; i <= Tape.MOST && fault == 0 && kind != Tape.END; i++) {
                readClause();
            }
            return fault == 0;
        }

        private int fail(int what) {
            if (fault == 0) {
                fault = what;
                place = start;
            }
            return 0;
        }

        /** A token with a fault is never left, so nothing behind it is looked at. */
        private void next() {
            if (fault == 0 && at + 1 >= 0 && at + 1 < tape.tokens && at < Tape.MOST) {
                at++;
                kind = tape.kind[at];
                value = tape.value[at];
                start = tape.place[at];
            }
        }

        private boolean isKey(int key) {
            return kind == Tape.LETTERS && value == key;
        }

        private boolean isSymbol(int symbol) {
            return kind == Tape.SYMBOL && value == symbol;
        }

        private void takeKey(int key) {
            if (!isKey(key)) {
                fail(MISPLACED);
            }
            next();
        }

        private void takeSymbol(int symbol) {
            if (!isSymbol(symbol)) {
                fail(MISPLACED);
            }
            next();
        }

        private void readClause() {
            int what = kind == Tape.LETTERS ? value : NONE;
            if (what < 0 || what > Tape.MORNING) {
                fail(MISPLACED);
                return;
            }
            if (text.has(what)) {
                fail(LAW_AGAIN);
                return;
            }
            if (text.clauses >= Text.MOST_CLAUSES) {
                fail(TOO_MANY_CLAUSES);
                return;
            }
            clause = text.clauses;
            text.begin(what);
            next();
            if (what >= Text.LAWS) {
                readDeed(what);
            } else {
                text.lawFrom[what] = text.codes;
                if (what == Judge.PRICE) {
                    readSum(what, 0);
                } else {
                    readEither(what);
                }
                text.lawEnd[what] = text.codes;
            }
            takeSymbol(';');
        }

        private void readDeed(int what) {
            switch (what) {
                case Tape.SAY:
                    readSenses();
                    break;
                case Tape.CONTRACT:
                    text.number[clause] = takeNumber(0, Lexicon.MOST_SAYINGS - 1);
                    break;
                case Tape.MORNING:
                    text.number[clause] = takeNumber(1, MOST_MORNINGS);
                    break;
                default:
                    text.letters[clause] = takeLetters(what == Tape.WORD);
                    readBehindLetters(what);
            }
        }

        private void readBehindLetters(int what) {
            switch (what) {
                case Tape.WORD:
                    takeKey(Tape.MEANS);
                    text.number[clause] = takeNumber(0, Lexicon.TOP_SENSE);
                    break;
                case Tape.TIE:
                    takeKey(Tape.TO);
                    text.others[clause] = takeLetters(false);
                    break;
                case Tape.RAISE:
                    takeKey(Tape.BY);
                    text.number[clause] = takeNumber(1, TOP_WAGE);
                    break;
                case Tape.SIGN:
                    takeKey(Tape.AS);
                    if (isKey(Tape.NO_SIGN)) {
                        text.number[clause] = NONE;
                        next();
                    } else {
                        text.number[clause] = takeNumber(0, TOP_SIGN);
                    }
                    break;
                default:
                    break;
            }
        }

        private void readSenses() {
            for (int i = 0; i <= Tape.MOST && fault == 0; i++) {
                int sense = takeSense(i);
                text.addToRow(clause, sense);
                if (!isSymbol(',')) {
                    return;
                }
                next();
            }
        }

        private int takeSense(int i) {
            boolean right = kind == Tape.NUMBER && value <= Lexicon.TOP_SENSE;
            if (right && i >= Lexicon.MOST_SENSES) {
                return fail(TOO_MANY_SENSES);
            }
            return takeNumber(0, Lexicon.TOP_SENSE);
        }

        private int takeNumber(int least, int most) {
            if (kind != Tape.NUMBER) {
                return fail(MISPLACED);
            }
            int n = value;
            if (n < least || n > most) {
                return fail(WRONG_NUMBER);
            }
            next();
            return n;
        }

        /** LETTERS as a set: a letter told twice counts once, but in a word each place counts. */
        private int takeLetters(boolean inWord) {
            if (kind != Tape.LETTERS) {
                return fail(MISPLACED);
            }
            int set = 0;
            int n = at >= 0 && at <= Tape.MOST ? tape.length[at] : 0;
            for (int i = 0; i < n && start + i < tape.size; i++) {
                int letter = tape.bytes[start + i] - 'a';
                if (!isLetter(letter)) {
                    return fail(WRONG_LETTERS);
                }
                set |= 1 << letter;
                if (inWord) {
                    text.addToRow(clause, letter);
                }
            }
            if ((inWord ? n : Integer.bitCount(set)) > Lexicon.LONGEST) {
                return fail(WRONG_LETTERS);
            }
            next();
            return set;
        }

        /** Conditions with or and and: the last or is written out once its right side is. */
        private void readEither(int law) {
            boolean orOpen = false;
            readAsk(law, 0);
            for (int i = 0; i <= Tape.MOST && fault == 0 && (isKey(Tape.OR) || isKey(Tape.AND)); i++) {
                boolean and = isKey(Tape.AND);
                if (!and && orOpen) {
                    text.emit(Judge.OR);
                }
                orOpen |= !and;
                next();
                readAsk(law, 0);
                if (and) {
                    text.emit(Judge.AND);
                }
            }
            if (orOpen) {
                text.emit(Judge.OR);
            }
        }

        /** open: how many of not, ( and - stand open around this place. */
        private void readAsk(int law, int open) {
            if (isKey(Tape.NOT)) {
                if (open >= DEEPEST) {
                    fail(TOO_DEEP);
                    return;
                }
                next();
                readAsk(law, open + 1);
                text.emit(Judge.NOT);
                return;
            }
            readSum(law, open);
            int comparison = comparison();
            if (comparison == NONE) {
                fail(MISPLACED);
                return;
            }
            next();
            readSum(law, open);
            text.emit(comparison);
        }

        private int comparison() {
            if (kind != Tape.SYMBOL) {
                return NONE;
            }
            switch (value) {
                case '<': return Judge.LESS;
                case '<' + Tape.WITH_EQUAL: return Judge.AT_MOST;
                case '>': return Judge.MORE;
                case '>' + Tape.WITH_EQUAL: return Judge.AT_LEAST;
                case '=': return Judge.EQUAL;
                case '#': return Judge.UNLIKE;
                default: return NONE;
            }
        }

        private void readSum(int law, int open) {
            readProduct(law, open);
            for (int i = 0; i <= Tape.MOST && fault == 0 && (isSymbol('+') || isSymbol('-')); i++) {
                boolean plus = isSymbol('+');
                next();
                readProduct(law, open);
                text.emit(plus ? Judge.PLUS : Judge.MINUS);
            }
        }

        private void readProduct(int law, int open) {
            readOne(law, open);
            for (int i = 0; i <= Tape.MOST && fault == 0 && (isSymbol('*') || isSymbol('/')); i++) {
                boolean times = isSymbol('*');
                next();
                readOne(law, open);
                text.emit(times ? Judge.TIMES : Judge.PART);
            }
        }

        private void readOne(int law, int open) {
            if (fault != 0) {
                return;
            }
            if (kind == Tape.NUMBER) {
                text.emit(takeNumber(0, Tape.TOP_NUMBER));
            } else if (kind == Tape.LETTERS) {
                readName(law);
            } else if (!isSymbol('(') && !isSymbol('-')) {
                fail(MISPLACED);
            } else if (open >= DEEPEST) {
                fail(TOO_DEEP);
            } else if (isSymbol('(')) {
                next();
                readSum(law, open + 1);
                takeSymbol(')');
            } else {
                next();
                readOne(law, open + 1);
                text.emit(Judge.NEGATIVE);
            }
        }

        private void readName(int law) {
            int name = value - Tape.FIRST_NAME;
            if (name < 0 || name >= Judge.NAMES) {
                fail(MISPLACED);
            } else if (!Judge.isNameOf(law, name)) {
                fail(WRONG_NAME);
            } else {
                text.emit(Text.NAME + name);
                next();
            }
        }
    }

    /** Says what the laws of the ruling text, or those without one, come to now. */
    static final class Judge {
        static final int JOINS = 0;
        static final int RETURNS = 1;
        static final int PRICE = 2;
        static final int BINDS = 3;

        static final int NAMES = 14;
        private static final int DAY = 0;
        private static final int OUTS = 1;
        private static final int LETTER = 2;
        private static final int WAGE = 3;
        private static final int SINCE = 4;
        private static final int VOWEL = 5;
        private static final int TIED = 6;
        private static final int USES = 7;
        private static final int LENGTH = 8;
        private static final int SENSE = 9;
        private static final int SIGNS = 10;
        private static final int BROKEN = 11;
        private static final int MANY = 12;
        private static final int DAYS = 13;

        static final int PLUS = Text.OPERATION;
        static final int MINUS = Text.OPERATION + 1;
        static final int TIMES = Text.OPERATION + 2;
        static final int PART = Text.OPERATION + 3;
        static final int LESS = Text.OPERATION + 4;
        static final int AT_MOST = Text.OPERATION + 5;
        static final int MORE = Text.OPERATION + 6;
        static final int AT_LEAST = Text.OPERATION + 7;
        static final int EQUAL = Text.OPERATION + 8;
        static final int UNLIKE = Text.OPERATION + 9;
        static final int AND = Text.OPERATION + 10;
        static final int OR = Text.OPERATION + 11;
        static final int NOT = Text.OPERATION + 12;
        static final int NEGATIVE = Text.OPERATION + 13;

        private static final int LIMIT = 1000000;
        private static final int TOP_PRICE = 999;
        private static final int VOWELS = 1 | 1 << 4 | 1 << 8 | 1 << 14 | 1 << 20;

        private final Empire empire;
        private final Text[] texts;
        private final int[] named = new int[NAMES];
        /** Some twenty are the most that a text of eight open brackets needs. */
        private final int[] stack = new int[64];

        Judge(Empire empire, Text[] texts) {
            this.empire = empire;
            this.texts = texts;
        }

        static boolean isNameOf(int law, int name) {
            if (name < LETTER) {
                return true;
            }
            if (name < LENGTH) {
                return law == JOINS || law == RETURNS;
            }
            return name < BROKEN ? law == PRICE : law == BINDS;
        }

        /** Whether a letter would come back, or walk out, this morning. */
        boolean moves(int letter) {
            Standing standing = empire.standing;
            int tied = Integer.bitCount(empire.ties[letter] & standing.out);
            int law = standing.isOut(letter) ? RETURNS : JOINS;
            Text text = ruling(law);
            if (text == null) {
                return law == RETURNS ? standing.wage[letter] > 9
                    : tied > 0 && standing.since[letter] > 0;
            }
            nameForAll(standing.outs());
            named[LETTER] = letter;
            named[WAGE] = standing.wage[letter];
            named[SINCE] = standing.since[letter];
            named[VOWEL] = VOWELS >> letter & 1;
            named[TIED] = tied;
            named[USES] = empire.lexicon.uses(letter);
            return run(text, law) != 0;
        }

        int price(int word) {
            Lexicon lexicon = empire.lexicon;
            if (!lexicon.isWord(word)) {
                return 0;
            }
            Text text = ruling(PRICE);
            if (text == null) {
                return lexicon.length[word] + 1;
            }
            int signs = 0;
            for (int i = 0; i < lexicon.length[word]; i++) {
                signs += empire.standing.isOut(lexicon.letterAt(word, i)) ? 1 : 0;
            }
            nameForAll(empire.standing.outs());
            named[LENGTH] = lexicon.length[word];
            named[SENSE] = lexicon.sense[word];
            named[SIGNS] = signs;
            return Math.max(0, Math.min(TOP_PRICE, run(text, PRICE)));
        }

        /** Whether a contract binds, if this letter were out, too (NONE: as it is). */
        boolean binds(int contract, int also) {
            Standing standing = empire.standing;
            int missing = standing.missing();
            int outs = standing.outs();
            if (isLetter(also)) {
                outs++;
                missing |= standing.sign[also] == NONE ? 1 << also : 0;
            }
            int broken = broken(contract, missing);
            Text text = ruling(BINDS);
            if (text == null) {
                return broken == 0;
            }
            nameForAll(outs);
            named[BROKEN] = broken;
            named[MANY] = empire.contracts.words[contract];
            named[DAYS] = standing.day - empire.contracts.day[contract];
            return run(text, BINDS) != 0;
        }

        int broken(int contract, int missing) {
            int n = 0;
            for (int k = 0; k < Lexicon.MOST_SENSES; k++) {
                int word = empire.contracts.wordAt(contract, k);
                if (empire.lexicon.isWord(word) && (empire.lexicon.mask[word] & missing) != 0) {
                    n++;
                }
            }
            return n;
        }

        int loophole(int contract) {
            if (!binds(contract, NONE)) {
                return NONE;
            }
            for (int letter = 0; letter < ALPHABET; letter++) {
                if (!empire.standing.isOut(letter) && !binds(contract, letter)) {
                    return letter;
                }
            }
            return NONE;
        }

        /** The ruling text, if it has this law. */
        private Text ruling(int law) {
            int ruling = empire.ruling;
            boolean rules = ruling >= 0 && ruling < texts.length && texts[ruling].has(law);
            return rules ? texts[ruling] : null;
        }

        private void nameForAll(int outs) {
            named[DAY] = empire.standing.day;
            named[OUTS] = outs;
        }

        private int run(Text text, int law) {
            int top = 0;
            for (int i = text.lawFrom[law]; i < text.lawEnd[law]; i++) {
                int c = text.code[i];
                if (c < Text.OPERATION) {
                    if (top < stack.length) {
                        stack[top] = c >= Text.NAME ? named[c - Text.NAME] : c;
                        top++;
                    }
                } else if (c == NOT || c == NEGATIVE) {
                    if (top > 0) {
                        stack[top - 1] = c == NOT ? 1 - stack[top - 1] : -stack[top - 1];
                    }
                } else if (top > 1) {
                    stack[top - 2] = limited(outcome(c, stack[top - 2], stack[top - 1]));
                    top--;
                }
            }
            return top > 0 ? stack[top - 1] : 0;
        }

        private static long outcome(int operation, long a, long b) {
            switch (operation) {
                case PLUS: return a + b;
                case MINUS: return a - b;
                case TIMES: return a * b;
                case PART: return b == 0 ? 0 : a / b;
                case LESS: return a < b ? 1 : 0;
                case AT_MOST: return a <= b ? 1 : 0;
                case MORE: return a > b ? 1 : 0;
                case AT_LEAST: return a >= b ? 1 : 0;
                case EQUAL: return a == b ? 1 : 0;
                case UNLIKE: return a != b ? 1 : 0;
                case AND: return a & b;
                default: return a | b;
            }
        }

        private static int limited(long n) {
            return n > LIMIT ? LIMIT : n < -LIMIT ? -LIMIT : (int) n;
        }
    }

    /** What is done in the empire: the steps, and the playing of a text. */
    static final class Deeds {
        private static final int LONGEST_SINCE = 999;

        private final Empire empire;
        private final Standing standing;
        private final Judge judge;

        Deeds(Empire empire, Judge judge) {
            this.empire = empire;
            this.standing = empire.standing;
            this.judge = judge;
        }

        /** So many mornings as there are ahead of the last day; how many that is. */
        int passMornings(int n) {
            int coming = Math.min(n, LAST_DAY - standing.day);
            for (int i = 0; i < coming; i++) {
                dawn(true);
            }
            return coming;
        }

        /** A morning: who moves is judged for all ahead of any move. */
        private void dawn(boolean step) {
            if (step) {
                empire.history.keep(standing);
            }
            int moving = 0;
            for (int letter = 0; letter < ALPHABET; letter++) {
                moving |= judge.moves(letter) ? 1 << letter : 0;
            }
            for (int letter = 0; letter < ALPHABET; letter++) {
                standing.since[letter] = Math.min(LONGEST_SINCE, standing.since[letter] + 1);
            }
            standing.move(moving);
            standing.day++;
        }

        int callOut(int letters) {
            return call(letters & ~standing.out);
        }

        int callBack(int letters) {
            return call(letters & standing.out);
        }

        private int call(int moving) {
            if (moving != 0) {
                empire.history.keep(standing);
                standing.move(moving);
            }
            return Integer.bitCount(moving);
        }

        boolean setWage(int letter, int wage) {
            if (standing.wage[letter] == wage) {
                return false;
            }
            empire.history.keep(standing);
            standing.wage[letter] = wage;
            return true;
        }

        boolean putSign(int letter, int sign) {
            if (standing.sign[letter] == sign) {
                return false;
            }
            empire.history.keep(standing);
            standing.sign[letter] = sign;
            return true;
        }

        int conclude(int saying) {
            Lexicon lexicon = empire.lexicon;
            Contracts contracts = empire.contracts;
            int number = standing.contracts;
            int missing = standing.missing();
            if (number < 0 || number >= Contracts.MOST || !lexicon.canSay(saying, missing)) {
                return NONE;
            }
            empire.history.keep(standing);
            contracts.saying[number] = saying;
            contracts.day[number] = standing.day;
            contracts.words[number] = lexicon.senses[saying];
            for (int k = 0; k < lexicon.senses[saying]; k++) {
                contracts.word[number * Lexicon.MOST_SENSES + k] = lexicon.wordSaid(saying, k, missing);
            }
            standing.contracts++;
            return number;
        }

        void liveYear(int seed, int n) {
            empire.history.keep(standing);
            standing.x = seed * 5 + 17;
            for (int i = 0; i < n; i++) {
                int letter = standing.x % ALPHABET;
                drawX();
                befall(letter);
                drawX();
            }
        }

        private void drawX() {
            standing.x = (standing.x * 211 + 97) % 30139;
        }

        private void befall(int letter) {
            if (!isLetter(letter)) {
                return;
            }
            switch (standing.x % 4) {
                case 0:
                    standing.wage[letter] = Math.min(TOP_WAGE, standing.wage[letter] + 1);
                    break;
                case 1:
                    standing.move(1 << letter);
                    break;
                case 2:
                    standing.sign[letter] = standing.x % 11 - 1;
                    break;
                default:
                    if (standing.day < LAST_DAY) {
                        dawn(false);
                    }
            }
        }

        /** NONE, or the number of the clause that can't be. */
        int play(Text text) {
            for (int clause = 0; clause < text.clauses; clause++) {
                if (text.kind[clause] >= Text.LAWS && !playClause(text, clause)) {
                    return clause;
                }
            }
            return NONE;
        }

        private boolean playClause(Text text, int clause) {
            int letters = text.letters[clause];
            int number = text.number[clause];
            int from = clause * Lexicon.LONGEST;
            switch (text.kind[clause]) {
                case Tape.WORD:
                    return empire.lexicon.tellWord(text.row, from, text.rowLength[clause], number) != NONE;
                case Tape.SAY:
                    return empire.lexicon.tellSaying(text.row, from, text.rowLength[clause]) != NONE;
                case Tape.TIE:
                    return empire.tieAll(letters, text.others[clause]);
                case Tape.STRIKE:
                    return callOut(letters) > 0;
                case Tape.BACK:
                    return callBack(letters) > 0;
                case Tape.RAISE:
                    return raiseAll(letters, number);
                case Tape.SIGN:
                    return signAll(letters, number);
                case Tape.CONTRACT:
                    return conclude(number) != NONE;
                case Tape.MORNING:
                    return passMornings(number) == number;
                default:
                    return false;
            }
        }

        private boolean raiseAll(int letters, int by) {
            boolean any = false;
            for (int letter = 0; letter < ALPHABET; letter++) {
                if ((letters >> letter & 1) != 0) {
                    any |= setWage(letter, Math.min(TOP_WAGE, standing.wage[letter] + by));
                }
            }
            return any;
        }

        private boolean signAll(int letters, int sign) {
            boolean any = false;
            for (int letter = 0; letter < ALPHABET; letter++) {
                if ((letters >> letter & 1) != 0) {
                    any |= putSign(letter, sign);
                }
            }
            return any;
        }
    }

    /** Stopping, power, shares and the game: what hangs on whether sayings can be said. */
    static final class Plans {
        static final int MOST_GROUP = 10;
        private static final int MOST_STOPPING = 4;
        private static final int[] ORDERS =
            {1, 1, 2, 6, 24, 120, 720, 5040, 40320, 362880, 3628800};

        private final Empire empire;
        final int[] shares = new int[Empire.MOST_PARTIES];
        private final int[] worths = new int[1 << Empire.MOST_PARTIES];
        private final int[] member = new int[MOST_GROUP];
        private int members;
        /** Both by the members (bits) that are out. */
        private final boolean[] sayable = new boolean[1 << MOST_GROUP];
        private final boolean[] wins = new boolean[1 << MOST_GROUP];

        Plans(Empire empire) {
            this.empire = empire;
        }

        int fewestStopping(int saying) {
            // A letter in no word of these senses could be left out again, so it is never needed.
            int useful = empire.lexicon.lettersFor(empire.lexicon.wanted[saying]);
            for (int n = 0; n <= MOST_STOPPING; n++) {
                int set = stopping(empire.lexicon, saying, useful, n, 0);
                if (set != NONE) {
                    return set;
                }
            }
            return NONE;
        }

        /** The first way to stop a saying with so many letters more, behind those of the set. */
        private static int stopping(Lexicon lexicon, int saying, int useful, int more, int set) {
            if (more <= 0) {
                return lexicon.canSay(saying, set) ? NONE : set;
            }
            for (int letter = 0; letter < ALPHABET; letter++) {
                int bit = 1 << letter;
                if ((useful & bit) != 0 && bit > set) {
                    int found = stopping(lexicon, saying, useful, more - 1, set | bit);
                    if (found != NONE) {
                        return found;
                    }
                }
            }
            return NONE;
        }

        int orders(int group) {
            int n = Integer.bitCount(group);
            return n < ORDERS.length ? ORDERS[n] : 0;
        }

        int pivotalOrders(int saying, int group, int letter) {
            tryGroup(saying, group);
            int own = 0;
            for (int m = 0; m < members; m++) {
                own |= member[m] == letter ? 1 << m : 0;
            }
            int count = 0;
            for (int before = 0; before < 1 << members; before++) {
                if ((before & own) == 0 && sayable[before] && !sayable[before | own]) {
                    int ahead = Integer.bitCount(before);
                    int behind = members - 1 - ahead;
                    count += behind < 0 ? 0 : ORDERS[ahead] * ORDERS[behind];
                }
            }
            return count;
        }

        private void tryGroup(int saying, int group) {
            members = 0;
            for (int letter = 0; letter < ALPHABET; letter++) {
                if ((group >> letter & 1) != 0 && members < MOST_GROUP) {
                    member[members] = letter;
                    members++;
                }
            }
            for (int some = 0; some < 1 << members; some++) {
                int set = 0;
                for (int m = 0; m < members; m++) {
                    set |= (some >> m & 1) << member[m];
                }
                sayable[some] = empire.lexicon.canSay(saying, set);
            }
        }

        /** The lowest letter by which the first to call wins, or NONE. */
        int winningCall(int saying, int letters) {
            tryGroup(saying, letters);
            int all = (1 << members) - 1;
            wins[all] = true;
            for (int out = all - 1; out >= 0; out--) {
                wins[out] = goodCall(out) != NONE;
            }
            int m = goodCall(0);
            return m == NONE ? NONE : member[m];
        }

        private int goodCall(int out) {
            for (int m = 0; m < members; m++) {
                int then = out | 1 << m;
                if (then != out && sayable[then] && !wins[then]) {
                    return m;
                }
            }
            return NONE;
        }

        int worthOf(int parties) {
            int letters = 0;
            for (int i = 0; i < empire.parties; i++) {
                letters |= (parties >> i & 1) != 0 ? empire.party[i] : 0;
            }
            return empire.lexicon.unsaid(letters);
        }

        boolean findCore(int purse) {
            for (int some = 0; some < 1 << empire.parties; some++) {
                worths[some] = worthOf(some);
            }
            return share(0, purse);
        }

        /** Shares what is left among the parties from this one on, the least first. */
        private boolean share(int party, int left) {
            if (party >= empire.parties || party >= shares.length) {
                return false;
            }
            if (party == empire.parties - 1) {
                shares[party] = left;
                return nobodyLeaves();
            }
            for (int part = worths[1 << party]; part <= left; part++) {
                shares[party] = part;
                if (share(party + 1, left - part)) {
                    return true;
                }
            }
            return false;
        }

        private boolean nobodyLeaves() {
            for (int some = 1; some < 1 << empire.parties; some++) {
                int sum = 0;
                for (int i = 0; i < empire.parties; i++) {
                    sum += (some >> i & 1) != 0 ? shares[i] : 0;
                }
                if (sum < worths[some]) {
                    return false;
                }
            }
            return true;
        }
    }

    /** Signs, settlements, letters to learn and spells: what hangs on how words are written. */
    static final class Puzzles {
        static final int MOST_SIGNED = 6;
        static final int MOST_SETTLED = 4;
        static final int DAYS = 31;

        private final Empire empire;
        /** How a letter looks: a sign below 10, or else itself behind the signs. */
        final int[] look = new int[ALPHABET];
        final int[] settled = new int[MOST_SETTLED];
        private final int[] chosen = new int[MOST_SETTLED];
        private int fewestLetters;
        int mostWords;
        int bestLetters;
        private final int[] printedLetters = new int[DAYS];
        private int daysOut;
        private int daysIn;

        Puzzles(Empire empire) {
            this.empire = empire;
        }

        boolean alikeNow(int word, int other) {
            Standing standing = empire.standing;
            for (int letter = 0; letter < ALPHABET; letter++) {
                // Nothing stands in for a letter that is out without a sign: it stays unlike all others.
                boolean replaced = standing.isOut(letter) && standing.sign[letter] != NONE;
                look[letter] = replaced ? standing.sign[letter] : letter + 10;
            }
            return alike(word, other);
        }

        private boolean alike(int word, int other) {
            Lexicon lexicon = empire.lexicon;
            if (lexicon.length[word] != lexicon.length[other]) {
                return false;
            }
            for (int i = 0; i < lexicon.length[word]; i++) {
                if (look[lexicon.letterAt(word, i)] != look[lexicon.letterAt(other, i)]) {
                    return false;
                }
            }
            return true;
        }

        /** How many unlike signs are needed at least; look has them then. */
        int fewestSigns(int letters) {
            for (int letter = 0; letter < ALPHABET; letter++) {
                look[letter] = letter + 10;
            }
            for (int most = 1; most <= MOST_SIGNED; most++) {
                if (putSigns(letters, 0, 0, most)) {
                    return most;
                }
            }
            return NONE;
        }

        /** Gives the letters from this one on signs, each the lowest by which none is mistaken. */
        private boolean putSigns(int letters, int from, int used, int most) {
            int letter = from;
            for (; letter < ALPHABET && (letters >> letter & 1) == 0; letter++) { }
            if (letter >= ALPHABET) {
                return nothingMistaken();
            }
            // A sign beyond the next new one would only be a new name for that one.
            for (int sign = 0; sign <= used && sign < most; sign++) {
                look[letter] = sign;
                if (putSigns(letters, letter + 1, Math.max(used, sign + 1), most)) {
                    return true;
                }
            }
            return false;
        }

        private boolean nothingMistaken() {
            for (int word = 0; word < empire.lexicon.words; word++) {
                for (int other = 0; other < word; other++) {
                    if (alike(word, other)) {
                        return false;
                    }
                }
            }
            return true;
        }

        /** How many letters the settlement has, or NONE; settled has its words then. */
        int settle(int letters) {
            fewestLetters = NONE;
            for (int i = 0; i < MOST_SETTLED; i++) {
                settled[i] = NONE;
            }
            for (int n = 1; n <= MOST_SETTLED; n++) {
                settleWith(letters, 0, n, 0);
            }
            return fewestLetters;
        }

        /** Tries all n words, from the i-th on; the lowest come first, so a later one must be shorter. */
        private void settleWith(int lacking, int i, int n, int together) {
            Lexicon lexicon = empire.lexicon;
            if (fewestLetters != NONE && together >= fewestLetters) {
                return;
            }
            if (i >= n || i >= MOST_SETTLED) {
                if (lacking == 0) {
                    fewestLetters = together;
                    System.arraycopy(chosen, 0, settled, 0, Math.min(n, MOST_SETTLED));
                }
                return;
            }
            for (int word = i == 0 ? 0 : chosen[i - 1] + 1; word < lexicon.words; word++) {
                chosen[i] = word;
                settleWith(lacking & ~lexicon.mask[word], i + 1, n, together + lexicon.length[word]);
            }
        }

        void learnFirst(int k) {
            int told = 0;
            for (int word = 0; word < empire.lexicon.words; word++) {
                told |= empire.lexicon.mask[word];
            }
            mostWords = NONE;
            bestLetters = 0;
            learnMore(told, Math.min(k, Integer.bitCount(told)), 0);
        }

        private void learnMore(int told, int more, int known) {
            if (more <= 0) {
                int words = wordsOf(known);
                if (words > mostWords) {
                    mostWords = words;
                    bestLetters = known;
                }
                return;
            }
            for (int letter = 0; letter < ALPHABET; letter++) {
                int bit = 1 << letter;
                if ((told & bit) != 0 && bit > known) {
                    learnMore(told, more - 1, known | bit);
                }
            }
        }

        private int wordsOf(int known) {
            int n = 0;
            for (int word = 0; word < empire.lexicon.words; word++) {
                n += (empire.lexicon.mask[word] & ~known) == 0 ? 1 : 0;
            }
            return n;
        }

        /** How many spells go with what was printed (i NONE), or the i-th of them. */
        int spell(int letter, int i) {
            int seen = 0;
            if (!weighPrints(letter)) {
                return i == NONE ? 0 : OTHER;
            }
            if (daysOut == 0) {
                if (i == 0) {
                    return NONE;
                }
                seen++;
            }
            for (int first = 0; first < DAYS; first++) {
                int days = 0;
                for (int last = first; last < DAYS; last++) {
                    days |= 1 << last;
                    if ((days & daysIn) == 0 && (daysOut & ~days) == 0) {
                        if (seen == i) {
                            return DAYS * first + last;
                        }
                        seen++;
                    }
                }
            }
            return i == NONE ? seen : OTHER;
        }

        /** On which days the letter must have been out or in; false if no spell can explain all. */
        private boolean weighPrints(int letter) {
            gatherPrinted(letter);
            daysOut = 0;
            for (int i = 0; i < empire.prints; i++) {
                if (empire.printWas[i] == 0) {
                    int day = empire.printDay[i];
                    // Those that may have been out; any other letter than this one is free to.
                    int suspects = empire.lexicon.mask[empire.printWord[i]] & ~printedLetters[day];
                    if (suspects == 0) {
                        return false;
                    }
                    daysOut |= suspects == 1 << letter ? 1 << day : 0;
                }
            }
            return true;
        }

        private void gatherPrinted(int letter) {
            daysIn = 0;
            for (int day = 0; day < DAYS; day++) {
                printedLetters[day] = 0;
            }
            for (int i = 0; i < empire.prints; i++) {
                if (empire.printWas[i] != 0) {
                    int day = empire.printDay[i];
                    printedLetters[day] |= empire.lexicon.mask[empire.printWord[i]];
                    daysIn |= (printedLetters[day] >> letter & 1) << day;
                }
            }
        }
    }
}
