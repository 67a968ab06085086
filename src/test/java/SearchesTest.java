import java.util.ArrayList;
import java.util.List;

/** The searches (promises 22, 23, 25 to 37) on drawn empires, each against the slowest way to find it. */
public final class SearchesTest {
    private static final int NONE = LettersOnStrike.NONE;
    private static final int LETTERS = 9;

    private static long seed = 20261118;

    private static int draw(int below) {
        seed = seed * 6364136223846793005L + 1442695040888963407L;
        return (int) ((seed >>> 33) % below);
    }

    private final LettersOnStrike x = new LettersOnStrike();
    private final List<String> words = new ArrayList<>();
    private final List<Integer> senses = new ArrayList<>();
    private final List<int[]> sayings = new ArrayList<>();

    private SearchesTest() {
        int longest = 1 + draw(5);
        int meanings = 1 + draw(4);
        int most = 1 + draw(12);
        for (int i = 0; i < most; i++) {
            StringBuilder word = new StringBuilder();
            int n = 1 + draw(longest);
            for (int k = 0; k < n; k++) {
                word.append((char) ('a' + draw(LETTERS)));
            }
            int sense = draw(meanings);
            if (!words.contains(word.toString())) {
                Due.due("word " + word, Due.word(x, word.toString(), sense), words.size());
                words.add(word.toString());
                senses.add(sense);
            }
        }
        for (int i = 0; i < 4; i++) {
            int n = 1 + draw(3);
            int[] saying = new int[n];
            int told = 1;
            for (int k = 0; k < n; k++) {
                saying[k] = draw(meanings);
                told = 10 * told + saying[k];
            }
            x.saying(told);
            sayings.add(saying);
        }
    }

    private static int mask(String word) {
        return Due.set(word);
    }

    private int wordFor(int sense, int without) {
        int best = NONE;
        for (int i = words.size() - 1; i >= 0; i--) {
            if (senses.get(i) == sense && (mask(words.get(i)) & without) == 0
                && (best == NONE || words.get(i).length() <= words.get(best).length())) {
                best = i;
            }
        }
        return best;
    }

    private boolean can(int saying, int without) {
        for (int sense : sayings.get(saying)) {
            if (wordFor(sense, without) == NONE) {
                return false;
            }
        }
        return true;
    }

    /** Of two sets as large: the one that has the lowest letter in which they differ is ahead. */
    private static boolean ahead(int a, int b) {
        int unlike = a ^ b;
        return (a & unlike & -unlike) != 0;
    }

    private void said() {
        for (int round = 0; round < 3; round++) {
            int without = round == 0 ? 0 : draw(1 << LETTERS);
            for (int s = 0; s < sayings.size(); s++) {
                boolean can = can(s, without);
                int letters = 0;
                for (int k = 0; k < sayings.get(s).length; k++) {
                    int word = wordFor(sayings.get(s)[k], without);
                    Due.due("said", x.said(s, without, k), can ? word : NONE);
                    letters += word == NONE ? 0 : words.get(word).length();
                }
                Due.due("said letters", x.said(s, without, NONE), can ? letters : NONE);
            }
        }
    }

    private void stops() {
        for (int s = 0; s < sayings.size(); s++) {
            int best = NONE;
            for (int set = 0; set < 1 << LETTERS; set++) {
                int n = Integer.bitCount(set);
                if (n <= 4 && !can(s, set) && (best == NONE || n < Integer.bitCount(best)
                    || n == Integer.bitCount(best) && ahead(set, best))) {
                    best = set;
                }
            }
            Due.due("stop of " + words + senses, x.stop(s), best);
        }
    }

    private void spared() {
        int worst = 0;
        int most = -1;
        for (int letter = 0; letter < 26; letter++) {
            int n = 0;
            for (int s = 0; s < sayings.size(); s++) {
                n += can(s, 1 << letter) ? 0 : 1;
            }
            if (n > most) {
                most = n;
                worst = letter;
            }
        }
        Due.due("spared", x.spared(false), worst);
        Due.due("spared many", x.spared(true), most);
    }

    /** How many orders of the rest end in this letter's being the one behind which all is over. */
    private int pivots(int saying, int rest, int out, int letter) {
        if (rest == 0) {
            return 0;
        }
        int n = 0;
        for (int l = 0; l < 26; l++) {
            if ((rest >> l & 1) != 0) {
                boolean over = can(saying, out) && !can(saying, out | 1 << l);
                if (!over) {
                    n += pivots(saying, rest & ~(1 << l), out | 1 << l, letter);
                } else if (l == letter) {
                    n += orders(Integer.bitCount(rest) - 1);
                }
            }
        }
        return n;
    }

    private static int orders(int n) {
        return n <= 1 ? 1 : n * orders(n - 1);
    }

    private int group(int most) {
        int set = 0;
        for (int i = 0; i < most; i++) {
            set |= 1 << draw(LETTERS + 1);
        }
        return set;
    }

    private void powers() {
        int s = draw(sayings.size());
        int group = group(6);
        for (int letter = 0; letter < 26; letter++) {
            if ((group >> letter & 1) != 0) {
                int upper = can(s, 0) ? pivots(s, group, 0, letter) : 0;
                int lower = orders(Integer.bitCount(group));
                int common = lower;
                while (upper % common != 0 || lower % common != 0) {
                    common--;
                }
                Due.due("power upper", x.power(s, group, letter, false), upper / common);
                Due.due("power lower", x.power(s, group, letter, true), lower / common);
            }
        }
    }

    private boolean wins(int saying, int set, int out) {
        if (set == out) {
            return true;
        }
        for (int l = 0; l < 26; l++) {
            int then = out | 1 << l;
            if ((set >> l & 1) != 0 && then != out && can(saying, then) && !wins(saying, set, then)) {
                return true;
            }
        }
        return false;
    }

    private void games() {
        int s = draw(sayings.size());
        int set = group(7);
        if (!can(s, 0)) {
            Due.due("game", x.game(s, set, false), -2);
            return;
        }
        int first = NONE;
        for (int l = 25; l >= 0; l--) {
            if ((set >> l & 1) != 0 && can(s, 1 << l) && !wins(s, set, 1 << l)) {
                first = l;
            }
        }
        Due.due("game won", x.game(s, set, false), wins(s, set, 0) ? 1 : 0);
        Due.due("game's first call", x.game(s, set, true), first);
    }

    private void shares() {
        int n = 1 + draw(4);
        int[] party = new int[n];
        for (int i = 0; i < n; i++) {
            party[i] = group(3);
            x.party(party[i]);
        }
        int[] worth = new int[1 << n];
        for (int some = 0; some < 1 << n; some++) {
            int set = 0;
            for (int i = 0; i < n; i++) {
                set |= (some >> i & 1) != 0 ? party[i] : 0;
            }
            for (int s = 0; s < sayings.size(); s++) {
                worth[some] += can(s, set) ? 0 : 1;
            }
            Due.due("worth", x.worth(some), worth[some]);
        }
        for (int purse = 2; purse < 12; purse += 3) {
            int[] best = core(n, purse, worth);
            for (int i = 0; i < n; i++) {
                Due.due("core", x.core(purse, i), best == null ? NONE : best[i]);
            }
        }
    }

    private static int[] core(int n, int purse, int[] worth) {
        for (int code = 0; code < Math.pow(purse + 1, n); code++) {
            int[] part = new int[n];
            int sum = 0;
            int rest = code;
            for (int i = n - 1; i >= 0; i--) {
                part[i] = rest % (purse + 1);
                rest /= purse + 1;
                sum += part[i];
            }
            boolean stays = sum == purse;
            for (int some = 1; some < 1 << n && stays; some++) {
                int theirs = 0;
                for (int i = 0; i < n; i++) {
                    theirs += (some >> i & 1) * part[i];
                }
                stays = theirs >= worth[some];
            }
            if (stays) {
                return part;
            }
        }
        return null;
    }

    private String looks(String word, int[] sign) {
        StringBuilder looks = new StringBuilder();
        for (char c : word.toCharArray()) {
            looks.append(sign[c - 'a'] >= 0 ? (char) ('0' + sign[c - 'a']) : c);
        }
        return looks.toString();
    }

    private void signs() {
        int set = group(5);
        int n = Integer.bitCount(set);
        int[] best = null;
        int fewest = 99;
        for (int code = 0; code < Math.pow(n, n); code++) {
            int[] sign = new int[26];
            int used = 0;
            int rest = code;
            for (int l = 25; l >= 0; l--) {
                sign[l] = NONE;
                if ((set >> l & 1) != 0) {
                    sign[l] = rest % n;
                    used |= 1 << sign[l];
                    rest /= n;
                }
            }
            List<String> seen = new ArrayList<>();
            boolean good = true;
            for (String word : words) {
                good &= !seen.contains(looks(word, sign));
                seen.add(looks(word, sign));
            }
            if (good && Integer.bitCount(used) < fewest) {
                fewest = Integer.bitCount(used);
                best = sign;
            }
        }
        Due.due("signsFor", x.signsFor(set, NONE), fewest);
        for (int l = 0; l < 26; l++) {
            Due.due("sign for", x.signsFor(set, l), best[l]);
        }
    }

    private void settlements() {
        int set = group(3);
        int best = 0;
        int bestLetters = 999;
        for (int some = 1; some < 1 << words.size(); some++) {
            int letters = 0;
            int covered = 0;
            for (int i = 0; i < words.size(); i++) {
                if ((some >> i & 1) != 0) {
                    letters += words.get(i).length();
                    covered |= mask(words.get(i));
                }
            }
            int n = Integer.bitCount(some);
            if (n <= 4 && (set & ~covered) == 0 && (letters < bestLetters || letters == bestLetters
                && (n < Integer.bitCount(best) || n == Integer.bitCount(best) && ahead(some, best)))) {
                best = some;
                bestLetters = letters;
            }
        }
        Due.due("settlement", x.settlement(set, NONE), best == 0 ? NONE : bestLetters);
        int i = 0;
        for (int word = 0; word < words.size(); word++) {
            if ((best >> word & 1) != 0) {
                Due.due("settlement's word", x.settlement(set, i), word);
                i++;
            }
        }
        Due.due("settlement's end", x.settlement(set, i), NONE);
    }

    private void learns() {
        int told = 0;
        for (String word : words) {
            told |= mask(word);
        }
        for (int k = 1; k <= 4; k++) {
            int best = NONE;
            int most = -1;
            for (int set = 0; set < 1 << LETTERS; set++) {
                if ((set & ~told) == 0 && Integer.bitCount(set) == Math.min(k, Integer.bitCount(told))) {
                    int n = 0;
                    for (String word : words) {
                        n += (mask(word) & ~set) == 0 ? 1 : 0;
                    }
                    if (n > most || n == most && ahead(set, best)) {
                        most = n;
                        best = set;
                    }
                }
            }
            Due.due("learn", x.learn(k, false), best);
            Due.due("learn words", x.learn(k, true), most);
        }
    }

    private void hairs() {
        int told = draw(words.size());
        int n = 0;
        for (int w = 0; w < words.size(); w++) {
            if (words.get(w).length() == words.get(told).length()) {
                int unlike = 0;
                for (int i = 0; i < words.get(w).length(); i++) {
                    unlike += words.get(w).charAt(i) != words.get(told).charAt(i) ? 1 : 0;
                }
                if (unlike == 1) {
                    Due.due("hair", x.hair(told, n), w);
                    n++;
                }
            }
        }
        Due.due("hairs", x.hair(told, NONE), n);
        Due.due("hairs' end", x.hair(told, n), NONE);
    }

    private void spells() {
        int n = draw(5);
        int[][] print = new int[n][3];
        for (int i = 0; i < n; i++) {
            print[i] = new int[] {draw(words.size()), draw(2) * 7 + draw(2), draw(2)};
            x.printed(print[i][0], print[i][1], print[i][2] == 1);
        }
        int letter = draw(LETTERS);
        boolean[][] goes = new boolean[31][2];
        for (int day = 0; day < 31; day++) {
            for (int out = 0; out < 1 << LETTERS; out++) {
                boolean all = true;
                for (int[] p : print) {
                    all &= p[1] != day || ((mask(words.get(p[0])) & out) == 0) == (p[2] == 1);
                }
                goes[day][out >> letter & 1] |= all;
            }
        }
        List<Integer> spells = new ArrayList<>();
        for (int code = -1; code < 31 * 31; code++) {
            int first = code < 0 ? 99 : code / 31;
            int last = code < 0 ? -1 : code % 31;
            boolean all = code < 0 || first <= last;
            for (int day = 0; day < 31; day++) {
                all &= goes[day][day >= first && day <= last ? 1 : 0];
            }
            if (all) {
                spells.add(code);
            }
        }
        Due.due("spells", x.spells(letter, NONE), spells.size());
        for (int i = 0; i < spells.size(); i += 1 + draw(20)) {
            Due.due("spell", x.spells(letter, i), spells.get(i));
        }
        Due.due("spells' end", x.spells(letter, spells.size()), -2);
    }

    /** Which words look alike, written or not; what comes behind it is to be the same with letters out. */
    private void alikes() {
        int out = draw(1 << LETTERS) | draw(1 << LETTERS);
        x.strike(out);
        int[] sign = new int[LETTERS];
        for (int letter = 0; letter < LETTERS; letter++) {
            sign[letter] = draw(4) - 1;
            x.sign(letter, sign[letter]);
        }
        List<String> looks = new ArrayList<>();
        for (String word : words) {
            StringBuilder look = new StringBuilder();
            for (char c : word.toCharArray()) {
                boolean replaced = (out >> (c - 'a') & 1) != 0 && sign[c - 'a'] != NONE;
                look.append(replaced ? (char) ('0' + sign[c - 'a']) : c);
            }
            looks.add(look.toString());
        }
        for (int w = 0; w < words.size(); w++) {
            for (int other = 0; other < words.size(); other++) {
                Due.due("mistaken " + words.get(w) + " " + words.get(other) + ", looking like " + looks.get(w) + " "
                    + looks.get(other), x.mistaken(w, other), w != other && looks.get(w).equals(looks.get(other)));
            }
        }
    }

    public static void main(String[] args) {
        for (int round = 0; round < 400; round++) {
            SearchesTest test = new SearchesTest();
            if (round % 2 == 0) {
                test.alikes();
            }
            test.said();
            test.stops();
            test.spared();
            test.powers();
            test.games();
            test.shares();
            test.signs();
            test.settlements();
            test.learns();
            test.hairs();
            test.spells();
        }
        Due.end("SearchesTest");
    }
}
