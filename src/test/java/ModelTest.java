import java.util.ArrayList;
import java.util.HashMap;
import java.util.List;
import java.util.Map;
import java.util.function.Function;

/**
 * Drawn runs of steps, scripts and laws (promises 2 to 24 and 38 to 41), call by call against a plain
 * second writing of them: state in maps and lists that are copied whole, laws as functions.
 */
public final class ModelTest {
    private static final int NONE = LettersOnStrike.NONE;
    private static final String JOINING = "day outs letter wage since vowel tied uses";
    private static final String PRICING = "day outs length sense signs";
    private static final String BINDING = "day outs broken many days";

    private static long seed = 4711;

    private static int draw(int below) {
        seed = seed * 6364136223846793005L + 1442695040888963407L;
        return (int) ((seed >>> 33) % below);
    }

    private static String pick(String list) {
        String[] all = list.split(" ");
        return all[draw(all.length)];
    }

    // ---- laws: a text and what it comes to, both from one drawing

    private record Law(String text, Function<Map<String, Integer>, Long> value) { }

    private static long limited(long n) {
        return n > 1000000 ? 1000000 : n < -1000000 ? -1000000 : n;
    }

    private static String blank() {
        return draw(4) == 0 ? " " : draw(20) == 0 ? "\n" : "";
    }

    private static Law sum(String names, int room) {
        Law all = product(names, room);
        while (draw(3) == 0) {
            Law left = all;
            Law right = product(names, room);
            boolean plus = draw(2) == 0;
            all = new Law(left.text + blank() + (plus ? "+" : "-") + blank() + right.text, at -> {
                long a = left.value.apply(at);
                long b = right.value.apply(at);
                return limited(plus ? a + b : a - b);
            });
        }
        return all;
    }

    private static Law product(String names, int room) {
        Law all = one(names, room);
        while (draw(3) == 0) {
            Law left = all;
            Law right = one(names, room);
            boolean times = draw(2) == 0;
            all = new Law(left.text + blank() + (times ? "*" : "/") + blank() + right.text, at -> {
                long a = left.value.apply(at);
                long b = right.value.apply(at);
                return limited(times ? a * b : b == 0 ? 0 : a / b);
            });
        }
        return all;
    }

    private static Law one(String names, int room) {
        int kind = draw(room > 0 ? 8 : 6);
        if (kind < 2) {
            long n = draw(3) == 0 ? draw(10000) : draw(12);
            return new Law("" + n, at -> n);
        }
        if (kind < 6) {
            String name = pick(names);
            return new Law(name, at -> (long) at.get(name));
        }
        if (kind == 6) {
            Law inner = sum(names, room - 1);
            return new Law("(" + blank() + inner.text + ")", inner.value);
        }
        Law inner = one(names, room - 1);
        return new Law("-" + blank() + inner.text, at -> -inner.value.apply(at));
    }

    private static Law ask(String names, int room) {
        if (draw(5) == 0 && room > 0) {
            Law inner = ask(names, room - 1);
            return new Law("not " + inner.text, at -> 1 - inner.value.apply(at));
        }
        Law left = sum(names, room);
        Law right = draw(2) == 0 ? sum(names, room) : new Law("3", at -> 3L);
        String sign = pick("< <= > >= = #");
        return new Law(left.text + blank() + sign + blank() + right.text, at -> {
            int order = Long.compare(left.value.apply(at), right.value.apply(at));
            boolean so = switch (sign) {
                case "<" -> order < 0;
                case "<=" -> order <= 0;
                case ">" -> order > 0;
                case ">=" -> order >= 0;
                case "=" -> order == 0;
                default -> order != 0;
            };
            return so ? 1L : 0L;
        });
    }

    private static Law chain(String names, String join) {
        Law all = join.equals("or") ? chain(names, "and") : ask(names, 2);
        while (draw(3) == 0) {
            Law left = all;
            Law right = join.equals("or") ? chain(names, "and") : ask(names, 2);
            all = new Law(left.text + " " + join + " " + right.text, at -> {
                long a = left.value.apply(at);
                long b = right.value.apply(at);
                return join.equals("or") ? Math.max(a, b) : Math.min(a, b);
            });
        }
        return all;
    }

    // ---- scripts

    private record Clause(String text, Function<ModelTest, Boolean> play) { }

    private static final class Script {
        final Map<String, Law> laws = new HashMap<>();
        final List<Clause> clauses = new ArrayList<>();
        String text = "";

        void add(String clause, Function<ModelTest, Boolean> play) {
            if (text.length() + clause.length() + 1 <= 300 && clauses.size() < 24) {
                text += clause + ";";
                clauses.add(new Clause(clause, play));
            }
        }

        void addLaw(String name) {
            Law law = name.equals("price") ? sum(PRICING, 3)
                : chain(name.equals("binds") ? BINDING : JOINING, "or");
            if (text.length() + name.length() + law.text.length() + 2 <= 300) {
                laws.put(name, law);
                add(name + " " + law.text, m -> true);
            }
        }
    }

    private static String letters() {
        StringBuilder some = new StringBuilder();
        int n = 1 + draw(4);
        for (int i = 0; i < n; i++) {
            some.append((char) ('a' + draw(draw(3) == 0 ? 26 : 7)));
        }
        return some.toString();
    }

    private static Script script() {
        Script s = new Script();
        String[] laws = {"joins", "returns", "price", "binds"};
        for (String law : laws) {
            if (draw(3) > 0) {
                s.addLaw(law);
            }
        }
        int n = draw(9);
        for (int i = 0; i < n; i++) {
            addDeed(s);
        }
        return s;
    }

    private static void addDeed(Script s) {
        String some = letters();
        String others = letters();
        int n = draw(10);
        switch (draw(9)) {
            case 0 -> s.add("word " + some + " means " + n % 4, m -> m.word(some, n % 4) != NONE);
            case 1 -> s.add("say " + n % 4 + "," + n % 3, m -> m.saying(n % 4, n % 3) != NONE);
            case 2 -> s.add("tie " + some + " to " + others, m -> m.tie(some, others));
            case 3 -> s.add("strike " + some, m -> m.call(Due.set(some), true) > 0);
            case 4 -> s.add("back " + some, m -> m.call(Due.set(some), false) > 0);
            case 5 -> s.add("raise " + some + " by " + (n + 1), m -> m.raise(Due.set(some), n + 1));
            case 6 -> s.add("sign " + some + " as " + (n == 0 ? "none" : "" + n),
                m -> m.sign(Due.set(some), n == 0 ? NONE : n));
            case 7 -> s.add("contract " + n % 8, m -> m.contract(n % 8) != NONE);
            default -> s.add("morning " + (n + 1), m -> m.mornings(n + 1));
        }
    }

    // ---- the empire, written a second time

    private static final class State {
        Map<Integer, Integer> wage = new HashMap<>();
        Map<Integer, Integer> since = new HashMap<>();
        Map<Integer, Integer> sign = new HashMap<>();
        List<Integer> out = new ArrayList<>();
        List<int[]> contracts = new ArrayList<>();
        int day;
        int x = 17;

        State copy() {
            State s = new State();
            s.wage.putAll(wage);
            s.since.putAll(since);
            s.sign.putAll(sign);
            s.out.addAll(out);
            s.contracts.addAll(contracts);
            s.day = day;
            s.x = x;
            return s;
        }
    }

    private static final class Whole {
        State now = new State();
        List<State> steps = new ArrayList<>();
        List<String> words = new ArrayList<>();
        List<Integer> senses = new ArrayList<>();
        List<int[]> sayings = new ArrayList<>();
        Map<Integer, Integer> ties = new HashMap<>();
        List<Script> texts = new ArrayList<>();
        Script ruling;

        Whole copy() {
            Whole w = new Whole();
            w.now = now.copy();
            for (State s : steps) {
                w.steps.add(s.copy());
            }
            w.words.addAll(words);
            w.senses.addAll(senses);
            w.sayings.addAll(sayings);
            w.ties.putAll(ties);
            w.texts.addAll(texts);
            w.ruling = ruling;
            return w;
        }
    }

    private final LettersOnStrike x = new LettersOnStrike();
    /** Calls so far, the looks aside: nothing is promised behind the 512th of all. */
    private int calls;
    private Whole all = new Whole();
    private Whole image = new Whole();

    private State now() {
        return all.now;
    }

    private void step() {
        all.steps.add(now().copy());
        if (all.steps.size() > 30) {
            all.steps.remove(0);
        }
    }

    private int wage(int l) {
        return now().wage.getOrDefault(l, 1);
    }

    private int since(int l) {
        return now().since.getOrDefault(l, 0);
    }

    private int signOf(int l) {
        return now().sign.getOrDefault(l, NONE);
    }

    private int ties(int l) {
        return all.ties.getOrDefault(l, 0);
    }

    private boolean out(int l) {
        return now().out.contains(l);
    }

    private int word(String letters, int sense) {
        if (all.words.contains(letters) || all.words.size() == 24) {
            return NONE;
        }
        all.words.add(letters);
        all.senses.add(sense);
        return all.words.size() - 1;
    }

    private int saying(int... senses) {
        if (all.sayings.size() == 8) {
            return NONE;
        }
        all.sayings.add(senses);
        return all.sayings.size() - 1;
    }

    private boolean tie(String some, String others) {
        boolean any = false;
        for (char a : some.toCharArray()) {
            for (char b : others.toCharArray()) {
                int old = ties(a - 'a');
                int made = a == b ? old : old | 1 << (b - 'a');
                any |= made != old;
                all.ties.put(a - 'a', made);
            }
        }
        return any;
    }

    private int call(int set, boolean goOut) {
        State ahead = now().copy();
        int n = 0;
        for (int l = 0; l < 26; l++) {
            if ((set >> l & 1) != 0 && out(l) != goOut) {
                turn(l);
                n++;
            }
        }
        if (n > 0) {
            State then = now();
            all.now = ahead;
            step();
            all.now = then;
        }
        return n;
    }

    private void turn(int l) {
        if (out(l)) {
            now().out.remove((Integer) l);
        } else {
            now().out.add(l);
        }
        now().since.put(l, 0);
    }

    private boolean raise(int set, int by) {
        boolean any = false;
        for (int l = 0; l < 26; l++) {
            if ((set >> l & 1) != 0) {
                any |= setWage(l, Math.min(99, wage(l) + by));
            }
        }
        return any;
    }

    private boolean setWage(int l, int wage) {
        if (wage(l) == wage) {
            return false;
        }
        step();
        now().wage.put(l, wage);
        return true;
    }

    private boolean sign(int set, int sign) {
        boolean any = false;
        for (int l = 0; l < 26; l++) {
            if ((set >> l & 1) != 0 && signOf(l) != sign) {
                step();
                now().sign.put(l, sign);
                any = true;
            }
        }
        return any;
    }

    private boolean mornings(int n) {
        for (int i = 0; i < n; i++) {
            if (now().day == 999) {
                return false;
            }
            step();
            morning();
        }
        return true;
    }

    private void morning() {
        List<Integer> turns = new ArrayList<>();
        for (int l = 0; l < 26; l++) {
            if (moves(l)) {
                turns.add(l);
            }
        }
        for (int l = 0; l < 26; l++) {
            now().since.put(l, Math.min(999, since(l) + 1));
        }
        for (int l : turns) {
            turn(l);
        }
        now().day++;
    }

    private Law law(String name) {
        return all.ruling == null ? null : all.ruling.laws.get(name);
    }

    private Map<String, Integer> names(int outs) {
        Map<String, Integer> names = new HashMap<>();
        names.put("day", now().day);
        names.put("outs", outs);
        return names;
    }

    private int uses(int l) {
        int n = 0;
        for (String word : all.words) {
            n += word.indexOf('a' + l) >= 0 ? 1 : 0;
        }
        return n;
    }

    private boolean moves(int l) {
        int tied = 0;
        for (int to : now().out) {
            tied += ties(l) >> to & 1;
        }
        Law law = law(out(l) ? "returns" : "joins");
        if (law == null) {
            return out(l) ? wage(l) > 9 : tied > 0 && since(l) > 0;
        }
        Map<String, Integer> names = names(now().out.size());
        names.put("letter", l);
        names.put("wage", wage(l));
        names.put("since", since(l));
        names.put("vowel", "aeiou".indexOf('a' + l) >= 0 ? 1 : 0);
        names.put("tied", tied);
        names.put("uses", uses(l));
        return law.value.apply(names) != 0;
    }

    private boolean can(String word, int also) {
        for (char c : word.toCharArray()) {
            int l = c - 'a';
            if ((out(l) || l == also) && signOf(l) == NONE) {
                return false;
            }
        }
        return true;
    }

    private int[] said(int saying) {
        if (saying < 0 || saying >= all.sayings.size()) {
            return null;
        }
        int[] senses = all.sayings.get(saying);
        int[] words = new int[senses.length];
        for (int i = 0; i < senses.length; i++) {
            words[i] = NONE;
            for (int w = 0; w < all.words.size(); w++) {
                if (all.senses.get(w) == senses[i] && can(all.words.get(w), NONE) && (words[i] == NONE
                    || all.words.get(w).length() < all.words.get(words[i]).length())) {
                    words[i] = w;
                }
            }
            if (words[i] == NONE) {
                return null;
            }
        }
        return words;
    }

    private int dear(int saying) {
        int[] words = said(saying);
        if (words == null) {
            return NONE;
        }
        int sum = 0;
        for (int w : words) {
            String word = all.words.get(w);
            Law law = law("price");
            Map<String, Integer> names = names(now().out.size());
            names.put("length", word.length());
            names.put("sense", all.senses.get(w));
            names.put("signs", (int) word.chars().filter(c -> out(c - 'a')).count());
            sum += law == null ? word.length() + 1
                : (int) Math.min(999, Math.max(0, law.value.apply(names)));
        }
        return sum;
    }

    private int contract(int saying) {
        int[] words = said(saying);
        if (words == null || now().contracts.size() == 10) {
            return NONE;
        }
        step();
        int[] row = new int[words.length + 2];
        row[0] = saying;
        row[1] = now().day;
        System.arraycopy(words, 0, row, 2, words.length);
        now().contracts.add(row);
        return now().contracts.size() - 1;
    }

    private int broken(int[] row, int also) {
        int n = 0;
        for (int i = 2; i < row.length; i++) {
            n += can(all.words.get(row[i]), also) ? 0 : 1;
        }
        return n;
    }

    private boolean binds(int[] row, int also) {
        Law law = law("binds");
        if (law == null) {
            return broken(row, also) == 0;
        }
        Map<String, Integer> names = names(now().out.size() + (also == NONE ? 0 : 1));
        names.put("broken", broken(row, also));
        names.put("many", row.length - 2);
        names.put("days", now().day - row[1]);
        return law.value.apply(names) != 0;
    }

    private int loophole(int[] row) {
        for (int l = 0; l < 26 && binds(row, NONE); l++) {
            if (!out(l) && !binds(row, l)) {
                return l;
            }
        }
        return NONE;
    }

    private int year(int start, int n) {
        step();
        State s = now();
        s.x = start * 5 + 17;
        for (int i = 0; i < n; i++) {
            int l = s.x % 26;
            s.x = (s.x * 211 + 97) % 30139;
            switch (s.x % 4) {
                case 0 -> s.wage.put(l, Math.min(99, wage(l) + 1));
                case 1 -> turn(l);
                case 2 -> s.sign.put(l, s.x % 11 - 1);
                default -> {
                    if (s.day < 999) {
                        morning();
                    }
                }
            }
            s.x = (s.x * 211 + 97) % 30139;
        }
        return s.out.size();
    }

    private int played(Script script) {
        for (int i = 0; i < script.clauses.size(); i++) {
            if (!script.clauses.get(i).play.apply(this)) {
                return i;
            }
        }
        return NONE;
    }

    // ---- one call to both, and a look at all that can be seen

    private void act() {
        int set = draw(1 << 7) & draw(1 << 7);
        int l = draw(8);
        int n = draw(12);
        calls++;
        switch (draw(16)) {
            case 0 -> Due.due("strike", x.strike(set), orNone(call(set, true)));
            case 1 -> Due.due("comeBack", x.comeBack(set), orNone(call(set, false)));
            case 2 -> Due.due("raise", x.raise(l, n), setWage(l, n));
            case 3 -> Due.due("sign", x.sign(l, n % 10 - 1), sign(1 << l, n % 10 - 1));
            case 4 -> Due.due("contract", x.contract(n % 9), contract(n % 9));
            case 5, 6 -> {
                boolean can = now().day + n + 1 <= 999;
                int got = x.morning(n + 1);
                Due.due("morning", got, can && mornings(n + 1) ? now().out.size() : NONE);
            }
            case 7 -> {
                int start = draw(10000);
                Due.due("year", x.year(start, 1 + 3 * n), year(start, 1 + 3 * n));
            }
            case 8, 9 -> undo();
            case 10 -> tell();
            case 11, 12 -> play();
            case 13 -> rule();
            case 14 -> {
                if (draw(3) == 0) {
                    image = all.copy();
                    Due.due("image", x.image(), now().day);
                }
            }
            default -> {
                if (draw(3) == 0) {
                    all = image.copy();
                    Due.due("back", x.back(), now().day);
                }
            }
        }
    }

    private static int orNone(int n) {
        return n == 0 ? NONE : n;
    }

    private void undo() {
        int last = all.steps.size() - 1;
        if (last >= 0) {
            all.now = all.steps.remove(last);
        }
        Due.due("undo", x.undo(), last);
    }

    private void tell() {
        calls += 3;
        String letters = letters();
        int sense = draw(4);
        Due.due("word " + letters, Due.word(x, letters, sense), word(letters, sense));
        if (draw(2) == 0) {
            int other = draw(4);
            Due.due("saying", x.saying(100 + 10 * sense + other), saying(sense, other));
        }
        String from = "" + (char) ('a' + draw(7));
        String to = "" + (char) ('a' + draw(7));
        Due.due("tie", x.tie(from.charAt(0) - 'a', to.charAt(0) - 'a'), tie(from, to));
    }

    private void play() {
        int n = all.texts.size();
        if (n < 4) {
            Script script = script();
            calls += 5 + script.text.length() / 20;
            Due.due("text '" + script.text + "'", Due.text(x, script.text), n);
            all.texts.add(script);
        }
        int which = draw(all.texts.size());
        Due.due("played '" + all.texts.get(which).text + "'", x.played(which), played(all.texts.get(which)));
    }

    private void rule() {
        int which = draw(all.texts.size() + 1) - 1;
        all.ruling = which < 0 ? null : all.texts.get(which);
        Due.due("by", x.by(which), true);
    }

    private void look() {
        Due.due("words", x.about(0), all.words.size());
        Due.due("sayings", x.about(1), all.sayings.size());
        Due.due("day", x.about(2), now().day);
        Due.due("X", x.about(3), now().x);
        Due.due("texts", x.about(4), all.texts.size());
        Due.due("ruling", x.about(5), all.texts.indexOf(all.ruling));
        Due.due("steps", x.about(6), all.steps.size());
        int out = 0;
        for (int l : now().out) {
            out |= 1 << l;
        }
        Due.due("out", x.about(7), out);
        Due.due("outs", x.about(11), now().out.size());
        for (int i = 0; i < 6; i++) {
            int l = draw(i < 4 ? 7 : 26);
            Due.due("wage", x.of(l, 0), wage(l));
            Due.due("since", x.of(l, 1), since(l));
            Due.due("is out", x.of(l, 2), out(l) ? 1 : 0);
            Due.due("sign", x.of(l, 3), signOf(l));
            Due.due("ties", x.of(l, 4), ties(l));
            Due.due("uses", x.of(l, 5), uses(l));
            Due.due("moves", x.of(l, 6), moves(l) ? 1 : 0);
        }
        lookAtWords();
        lookAtContracts();
    }

    private void lookAtWords() {
        for (int round = 0; round < 3 && !all.words.isEmpty(); round++) {
            int w = draw(all.words.size());
            Due.due("can", x.ofWord(w, 3), can(all.words.get(w), NONE) ? 1 : 0);
            Due.due("sense", x.ofWord(w, 1), all.senses.get(w));
            for (int i = 0; i < all.words.get(w).length(); i++) {
                Due.due("letter", x.ofWord(w, 10 + i), all.words.get(w).charAt(i) - 'a');
            }
            int other = draw(all.words.size());
            Due.due("mistaken", x.mistaken(w, other), w != other && looks(w).equals(looks(other)));
        }
        for (int round = 0; round < 3 && !all.sayings.isEmpty(); round++) {
            int s = draw(all.sayings.size());
            Due.due("dear", x.dear(s), dear(s));
            int[] said = said(s);
            for (int i = 0; i < all.sayings.get(s).length; i++) {
                Due.due("said", x.said(s, NONE, i), said == null ? NONE : said[i]);
            }
        }
    }

    private String looks(int word) {
        StringBuilder looks = new StringBuilder();
        for (char c : all.words.get(word).toCharArray()) {
            boolean replaced = out(c - 'a') && signOf(c - 'a') != NONE;
            looks.append(replaced ? "" + signOf(c - 'a') : "" + c);
        }
        return looks.toString();
    }

    private void lookAtContracts() {
        Due.due("contracts", x.signed(NONE, 0), now().contracts.size());
        for (int round = 0; round < 3 && !now().contracts.isEmpty(); round++) {
            int i = draw(now().contracts.size());
            int[] row = now().contracts.get(i);
            Due.due("its saying", x.signed(i, 0), row[0]);
            Due.due("its day", x.signed(i, 1), row[1]);
            Due.due("its words", x.signed(i, 2), row.length - 2);
            Due.due("binds", x.signed(i, 3), binds(row, NONE) ? 1 : 0);
            Due.due("broken", x.signed(i, 4), broken(row, NONE));
            Due.due("loophole", x.signed(i, 5), loophole(row));
            for (int k = 2; k < row.length; k++) {
                Due.due("its word", x.signed(i, 8 + k), row[k]);
            }
        }
    }

    public static void main(String[] args) {
        for (int run = 0; run < 2000; run++) {
            ModelTest test = new ModelTest();
            for (int i = 0; i < 5; i++) {
                test.tell();
            }
            for (int some = 60; some <= 180; some += 60) {
                while (test.calls < some) {
                    test.act();
                }
                test.look();
            }
        }
        Due.end("ModelTest");
    }
}
