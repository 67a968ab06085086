/** Terms I and V, promises 1, 2, 10 to 14 and 17 to 19: each sentence about letters that names an edge. */
public final class LettersEdgesTest {
    private static final int NONE = Edges.NONE;

    private static void says(String words) {
        Edges.says(words);
    }

    private static void is(String call, long got, long want) {
        Edges.is(call, got, want);
    }

    private static void is(String call, boolean got, boolean want) {
        Edges.is(call, got, want);
    }

    private static int set(String letters) {
        return Due.set(letters);
    }

    // ---- promise 1, and what is so at first

    private static void nothingAtFirst() {
        says("1: No WORDS, nobody OUT");
        LettersOnStrike x = Edges.fresh();
        is("words", x.about(0), 0);
        is("who is out", x.about(7), 0);
        is("how many are out", x.about(11), 0);
        is("the first word", x.ofWord(0, 0), NONE);
        is("sayings", x.about(1), 0);
        is("the first saying", x.ofSaying(0, 0), NONE);
        is("contracts", x.signed(NONE, 0), 0);
        is("texts", x.about(4), 0);
        is("parties", x.about(8), 0);
        is("printed", x.about(9), 0);
        is("bytes of the tape", x.about(10), 0);
        is("steps", x.about(6), 0);
    }

    private static void firstValues() {
        LettersOnStrike x = Edges.fresh();
        for (int letter = 0; letter < 26; letter++) {
            says("I: a WAGE (at first 1)");
            is("wage of " + letter, x.of(letter, 0), 1);
            says("I: SINCE (at first 0)");
            is("since of " + letter, x.of(letter, 1), 0);
            says("I: is OUT or not (at first not)");
            is("out: " + letter, x.of(letter, 2), 0);
            says("I: a SIGN or none (at first)");
            is("sign of " + letter, x.of(letter, 3), NONE);
            says("I: TIES (at first none)");
            is("ties of " + letter, x.of(letter, 4), 0);
        }
        says("I: DAY (at first 0)");
        is("day", x.about(2), 0);
        says("I: X: at first 17");
        is("X", x.about(3), 17);
        says("II: THE TEXT (at first none)");
        is("the text", x.about(5), NONE);
    }

    private static void imageAtFirst() {
        says("1: THE IMAGE is this");
        String before = Edges.look(Edges.fresh());
        LettersOnStrike x = Edges.busy();
        x.year(77, 9);
        x.end(0);
        is("back", x.back(), 0);
        // The latest fault isn't of the image: a text was read in between.
        is("all but the fault", Edges.look(x).startsWith(before.substring(0, before.length() - 5)), true);
        is("its fault", x.fault(0), 0);
        is("undo", x.undo(), NONE);
        is("words are told from 0 again", Due.word(x, "sea", 1), 0);
        is("sayings, too", x.saying(11), 0);
        is("parties, too", x.party(1), 1);
        is("prints, too", x.printed(0, 0, true), 1);
        is("contracts, too", x.contract(0), 0);
        is("texts, too", Due.text(x, ""), 0);
    }

    // ---- promise 2

    private static void tieOfAnother() {
        says("2: A TIE of a LETTER to another one: true");
        LettersOnStrike x = Edges.fresh();
        is("a to z", x.tie(0, 25), true);
        is("z to a", x.tie(25, 0), true);
        is("ties of a", x.of(0, 4), 1 << 25);
        is("ties of z", x.of(25, 4), 1);
        for (int to = 1; to < 25; to++) {
            is("a to " + to, x.tie(0, to), true);
        }
        is("a has all ties but its own", x.of(0, 4), Edges.ALL - 1);
    }

    private static void tieOfOthers() {
        says("2: False for others");
        LettersOnStrike x = Edges.busy();
        String before = Edges.look(x);
        int[] none = {-1, 26, -2, 27, 31, 32, 64, Edges.LEAST, Edges.MOST};
        for (int other : none) {
            is("a letter " + other, x.tie(other, 1), false);
            is("to " + other, x.tie(1, other), false);
            is("itself " + other, x.tie(other, other), false);
        }
        is("a to itself", x.tie(0, 0), false);
        is("z to itself", x.tie(25, 25), false);
        Edges.unchanged(x, before);
    }

    private static void tieThatIsThere() {
        says("2: and if it is there");
        LettersOnStrike x = Edges.busy();
        String before = Edges.look(x);
        is("a to e", x.tie(0, 4), false);
        is("z to a", x.tie(25, 0), false);
        Edges.unchanged(x, before);
        is("e to a is another", x.tie(4, 0), true);
        is("a to z is another", x.tie(0, 25), true);
    }

    private static void tieByText() {
        says("2: and if it is there (told by a text)");
        LettersOnStrike x = Edges.fresh();
        is("played", x.played(Due.text(x, "tie a to bc;")), NONE);
        is("a to c", x.tie(0, 2), false);
        is("c to a", x.tie(2, 0), true);
    }

    // ---- since, day, vowels

    private static void sinceUpTo999() {
        says("I: SINCE (999 at most)");
        LettersOnStrike x = Edges.fresh();
        x.strike(2);
        Edges.until(x, 998);
        is("998 mornings, in", x.of(0, 1), 998);
        is("998 mornings, out", x.of(1, 1), 998);
        x.morning(1);
        is("999 mornings, in", x.of(0, 1), 999);
        is("999 mornings, out", x.of(1, 1), 999);
        x.comeBack(2);
        is("as it is, from now on", x.of(1, 1), 0);
        is("the others' stays", x.of(0, 1), 999);
    }

    private static void vowels() {
        says("I: VOWELS: a, e, i, o, u");
        LettersOnStrike x = Edges.fresh();
        x.by(Due.text(x, "joins vowel=1;"));
        is("vowels walk out", x.morning(1), 5);
        is("these", x.about(7), set("aeiou"));
        LettersOnStrike y = Edges.fresh();
        y.by(Due.text(y, "joins vowel=0;"));
        is("the others walk out", y.morning(1), 21);
        is("those", y.about(7), Edges.ALL & ~set("aeiou"));
        LettersOnStrike z = Edges.fresh();
        z.strike(Edges.ALL);
        z.by(Due.text(z, "returns vowel#0;"));
        is("vowels come back", z.morning(1), 21);
        is("the others stay out", z.about(7), Edges.ALL & ~set("aeiou"));
    }

    // ---- mornings: promise 10

    private static void morningsFrom1To99() {
        says("10: MORNINGS come (1 .. 99): how many LETTERS are OUT then");
        LettersOnStrike x = Edges.fresh();
        is("1", x.morning(1), 0);
        is("day 1", x.about(2), 1);
        x.strike(set("az"));
        is("99", x.morning(99), 2);
        is("day 100", x.about(2), 100);
        x.tie(1, 0);
        is("then, not ahead of them", x.morning(2), 3);
    }

    private static void morningsOfOthers() {
        says("10: NONE for others");
        LettersOnStrike x = Edges.busy();
        String before = Edges.look(x);
        int[] wrong = {0, -1, 100, 101, -99, 998, 1000, Edges.LEAST, Edges.MOST, Edges.MOST - 1};
        for (int n : wrong) {
            is("morning(" + n + ")", x.morning(n), NONE);
        }
        Edges.unchanged(x, before);
    }

    private static void morningsBeyondTheLastDay() {
        says("10: or beyond DAY 999");
        LettersOnStrike x = Edges.fresh();
        Edges.until(x, 901);
        String before = Edges.look(x);
        is("99 from day 901", x.morning(99), NONE);
        Edges.unchanged(x, before);
        LettersOnStrike y = Edges.fresh();
        Edges.until(y, 900);
        is("99 from day 900", y.morning(99), 0);
        is("day", y.about(2), 999);
        before = Edges.look(y);
        is("1 from day 999", y.morning(1), NONE);
        is("99 from day 999", y.morning(99), NONE);
        Edges.unchanged(y, before);
        LettersOnStrike z = Edges.fresh();
        Edges.until(z, 998);
        is("2 from day 998", z.morning(2), NONE);
        is("day", z.about(2), 998);
        is("1 from day 998", z.morning(1), 0);
        is("day", z.about(2), 999);
    }

    private static void allAtOnce() {
        says("I: A MORNING: by how all stand ahead of it, all at once");
        LettersOnStrike x = Edges.fresh();
        x.tie(0, 1);
        x.tie(1, 2);
        x.tie(3, 0);
        x.strike(4);
        x.morning(1);
        is("c alone was out ahead of the first: b had since 0", x.about(7), 4);
        x.morning(1);
        is("b joins c; a, tied to b, doesn't yet", x.about(7), set("bc"));
        x.morning(1);
        is("a joins b; d, tied to a, doesn't yet", x.about(7), set("abc"));
        x.morning(1);
        is("d joins a", x.about(7), set("abcd"));
        LettersOnStrike y = Edges.fresh();
        y.by(Due.text(y, "joins outs<3;returns outs>=3;"));
        is("all 26 see nobody out", y.morning(1), 26);
        is("all 26 see all out", y.morning(1), 0);
    }

    private static void dayAheadOfTheMorning() {
        says("I: by how all stand ahead of it (DAY, too)");
        LettersOnStrike x = Edges.fresh();
        x.by(Due.text(x, "joins day=0;returns day=2;"));
        is("it is day 0 ahead of the first", x.morning(1), 26);
        is("day 1", x.morning(1), 26);
        is("day 2", x.morning(1), 0);
        is("day 3", x.morning(1), 0);
    }

    private static void outComesBackElseWalksOut() {
        says("I: each that is OUT comes back, if returns is so, each other one walks out, if joins is so");
        LettersOnStrike x = Edges.fresh();
        x.strike(set("abc"));
        x.by(Due.text(x, "joins letter<5;returns letter<2;"));
        is("a, b come back, d, e walk out", x.morning(1), 3);
        is("who is out", x.about(7), set("cde"));
    }

    private static void sinceBehindAMorning() {
        says("I: SINCE is 0 for those, for others one more; then DAY is one more");
        LettersOnStrike x = Edges.fresh();
        x.strike(set("ab"));
        x.morning(3);
        x.by(Due.text(x, "joins letter=2;returns letter=1;"));
        x.morning(1);
        is("a stays out", x.of(0, 1), 4);
        is("b came back", x.of(1, 1), 0);
        is("c walked out", x.of(2, 1), 0);
        is("d stays in", x.of(3, 1), 4);
        is("day", x.about(2), 4);
    }

    private static void withoutJoins() {
        says("II: Without joins: if tied is above 0 and since above 0");
        LettersOnStrike x = Edges.fresh();
        x.tie(0, 1);
        is("tied 0, since 0", x.of(0, 6), 0);
        x.strike(2);
        is("tied 1, since 0", x.of(0, 6), 0);
        x.comeBack(2);
        x.morning(1);
        is("tied 0, since 1", x.of(0, 6), 0);
        x.strike(2);
        is("tied 1, since 1", x.of(0, 6), 1);
        is("b itself isn't tied", x.of(1, 6), 0);
        x.by(Due.text(x, "returns 1=1;price 1;binds 1=1;strike a;"));
        is("by a text without joins", x.of(0, 6), 1);
    }

    private static void withoutReturns() {
        says("II: Without returns: if WAGE is above 9");
        LettersOnStrike x = Edges.fresh();
        x.strike(3);
        x.raise(0, 9);
        x.raise(1, 10);
        is("wage 9", x.of(0, 6), 0);
        is("wage 10", x.of(1, 6), 1);
        x.by(Due.text(x, "joins 1=2;price 1;"));
        is("wage 9, by a text without returns", x.of(0, 6), 0);
        is("wage 10, by a text without returns", x.of(1, 6), 1);
        is("b comes back", x.morning(1), 1);
        is("a stays", x.about(7), 1);
    }

    // ---- calling out and back: promises 11 and 12

    private static void calledOut() {
        says("11: CALLED OUT: how many of the set (all that aren't so yet; SINCE 0)");
        LettersOnStrike x = Edges.fresh();
        x.morning(5);
        is("z", x.strike(1 << 25), 1);
        is("a", x.strike(1), 1);
        x.morning(5);
        is("all others", x.strike(Edges.ALL), 24);
        is("b is new", x.of(1, 1), 0);
        is("y is new", x.of(24, 1), 0);
        is("a was out already", x.of(0, 1), 5);
        is("z was out already", x.of(25, 1), 5);
        is("all", x.about(7), Edges.ALL);
    }

    private static void calledOutOthers() {
        says("11: NONE for others (an empty set)");
        LettersOnStrike x = Edges.busy();
        String before = Edges.look(x);
        int[] wrong = {0, -1, 1 << 26, 1 << 26 | 1, -2, 1 << 30, Edges.LEAST, Edges.MOST, -Edges.ALL};
        for (int letters : wrong) {
            is("strike(" + letters + ")", x.strike(letters), NONE);
        }
        Edges.unchanged(x, before);
    }

    private static void allAreOut() {
        says("11: and if all are OUT");
        LettersOnStrike x = Edges.busy();
        String before = Edges.look(x);
        is("t", x.strike(set("t")), NONE);
        is("t and z", x.strike(set("tz")), NONE);
        Edges.unchanged(x, before);
        is("s, t and z", x.strike(set("stz")), 1);
        is("a step more", x.about(6), 7);
    }

    private static void calledBack() {
        says("12: CALLED BACK: how many of the set (all that aren't so yet; SINCE 0)");
        LettersOnStrike x = Edges.fresh();
        x.strike(Edges.ALL);
        x.morning(4);
        is("a", x.comeBack(1), 1);
        x.morning(4);
        is("all others", x.comeBack(Edges.ALL), 25);
        is("z is new", x.of(25, 1), 0);
        is("a was in already", x.of(0, 1), 4);
        is("nobody", x.about(7), 0);
    }

    private static void calledBackOthers() {
        says("12: NONE for others");
        LettersOnStrike x = Edges.busy();
        String before = Edges.look(x);
        int[] wrong = {0, -1, 1 << 26, 1 << 26 | 1 << 19, -2, 1 << 30, Edges.LEAST, Edges.MOST};
        for (int letters : wrong) {
            is("comeBack(" + letters + ")", x.comeBack(letters), NONE);
        }
        Edges.unchanged(x, before);
    }

    private static void noneIsOut() {
        says("12: and if none is OUT");
        LettersOnStrike x = Edges.busy();
        String before = Edges.look(x);
        is("all but t, z", x.comeBack(Edges.ALL & ~set("tz")), NONE);
        is("a", x.comeBack(1), NONE);
        Edges.unchanged(x, before);
        is("all", x.comeBack(Edges.ALL), 2);
        is("all again", x.comeBack(Edges.ALL), NONE);
    }

    // ---- wages and signs: promises 13 and 14

    private static void raised() {
        says("13: RAISED: true (I: a WAGE, 0 .. 99)");
        LettersOnStrike x = Edges.fresh();
        is("a: 0", x.raise(0, 0), true);
        is("z: 99", x.raise(25, 99), true);
        is("b: 2", x.raise(1, 2), true);
        is("b: 1, lower", x.raise(1, 1), true);
        is("wage of a", x.of(0, 0), 0);
        is("wage of b", x.of(1, 0), 1);
        is("wage of z", x.of(25, 0), 99);
        is("steps", x.about(6), 4);
    }

    private static void raisedOthers() {
        says("13: False for others (0 .. 99)");
        LettersOnStrike x = Edges.busy();
        String before = Edges.look(x);
        int[] wages = {-1, 100, 101, 256, Edges.LEAST, Edges.MOST};
        for (int wage : wages) {
            is("wage " + wage, x.raise(0, wage), false);
        }
        int[] letters = {-1, 26, 32, Edges.LEAST, Edges.MOST};
        for (int letter : letters) {
            is("letter " + letter, x.raise(letter, 5), false);
        }
        Edges.unchanged(x, before);
    }

    private static void raisedAlready() {
        says("13: and if it is so");
        LettersOnStrike x = Edges.busy();
        String before = Edges.look(x);
        is("a: 1", x.raise(0, 1), false);
        is("b: 9", x.raise(1, 9), false);
        Edges.unchanged(x, before);
    }

    private static void signed() {
        says("14: A SIGN (NONE: none): true");
        LettersOnStrike x = Edges.fresh();
        is("a: 0", x.sign(0, 0), true);
        is("z: 9", x.sign(25, 9), true);
        is("b: 9, too", x.sign(1, 9), true);
        is("b: none", x.sign(1, NONE), true);
        is("a: another", x.sign(0, 1), true);
        is("sign of a", x.of(0, 3), 1);
        is("sign of b", x.of(1, 3), NONE);
        is("sign of z", x.of(25, 3), 9);
        is("steps", x.about(6), 5);
    }

    private static void signedOthers() {
        says("14: False for others");
        LettersOnStrike x = Edges.busy();
        String before = Edges.look(x);
        int[] signs = {-2, 10, 11, 48, Edges.LEAST, Edges.MOST};
        for (int sign : signs) {
            is("sign " + sign, x.sign(0, sign), false);
        }
        int[] letters = {-1, 26, 32, Edges.LEAST, Edges.MOST};
        for (int letter : letters) {
            is("letter " + letter, x.sign(letter, 5), false);
            is("none for letter " + letter, x.sign(letter, NONE), false);
        }
        Edges.unchanged(x, before);
    }

    private static void signedAlready() {
        says("14: and if it is so");
        LettersOnStrike x = Edges.busy();
        String before = Edges.look(x);
        is("t: 4", x.sign(19, 4), false);
        is("a: none", x.sign(0, NONE), false);
        Edges.unchanged(x, before);
    }

    // ---- years: promise 17

    private static int drawn(int x) {
        return (x * 211 + 97) % 30139;
    }

    /** The first seed that draws a letter and what befalls it: X anew mod 4, and mod 11 (NONE: any). */
    private static int seed(int letter, int kind, int eleventh) {
        for (int seed = 0; seed <= 9999; seed++) {
            int x = seed * 5 + 17;
            int next = drawn(x);
            if (x % 26 == letter && next % 4 == kind && (eleventh == NONE || next % 11 == eleventh)) {
                return seed;
            }
        }
        return NONE;
    }

    private static void yearsFromTo() {
        says("17: A YEAR: how many are OUT then (a SEED 0 .. 9999, 1 .. 40 times)");
        int[][] rows = {{0, 1}, {9999, 1}, {0, 40}, {9999, 40}, {1, 39}};
        for (int[] row : rows) {
            LettersOnStrike x = Edges.fresh();
            int out = x.year(row[0], row[1]);
            is("year(" + row[0] + ", " + row[1] + ")", out, x.about(11));
            int due = row[0] * 5 + 17;
            for (int i = 0; i < 2 * row[1]; i++) {
                due = drawn(due);
            }
            is("X of year(" + row[0] + ", " + row[1] + ")", x.about(3), due);
        }
    }

    private static void yearsOfOthers() {
        says("17: NONE for others");
        LettersOnStrike x = Edges.busy();
        String before = Edges.look(x);
        int[] seeds = {-1, 10000, 10001, Edges.LEAST, Edges.MOST};
        for (int seed : seeds) {
            is("seed " + seed, x.year(seed, 5), NONE);
        }
        int[] times = {0, -1, 41, 42, 100, Edges.LEAST, Edges.MOST};
        for (int n : times) {
            is(n + " times", x.year(5, n), NONE);
        }
        Edges.unchanged(x, before);
    }

    private static void yearOfAWage() {
        says("V: if X mod 4 is 0 its WAGE is one more (99 at most)");
        LettersOnStrike x = Edges.fresh();
        int seed = seed(3, 0, NONE);
        x.year(seed, 1);
        is("one more", x.of(3, 0), 2);
        x.raise(3, 98);
        x.year(seed, 1);
        is("99", x.of(3, 0), 99);
        x.year(seed, 1);
        is("99 at most", x.of(3, 0), 99);
        is("that is a step, too", x.about(6), 4);
        is("nobody else's", x.of(2, 0) + x.of(4, 0), 2);
        is("nobody is out by it", x.about(7), 0);
        is("no sign by it", x.of(3, 3), NONE);
        is("no day by it", x.about(2), 0);
    }

    private static void yearOfAWalk() {
        says("V: if 1 it goes OUT (or comes back, if it is OUT; SINCE 0)");
        LettersOnStrike x = Edges.fresh();
        int seed = seed(25, 1, 5);
        x.morning(3);
        is("out", x.year(seed, 1), 1);
        is("z", x.about(7), 1 << 25);
        is("since", x.of(25, 1), 0);
        is("the others' stays", x.of(0, 1), 3);
        x.morning(2);
        is("back", x.year(seed, 1), 0);
        is("since again", x.of(25, 1), 0);
        is("no day by it", x.about(2), 5);
        is("no sign by it", x.of(25, 3), NONE);
        is("no wage by it", x.of(25, 0), 1);
    }

    private static void yearOfASign() {
        says("V: if 2 its SIGN is X mod 11 less 1 (none below 0)");
        LettersOnStrike x = Edges.fresh();
        x.year(seed(0, 2, 10), 1);
        is("10 less 1", x.of(0, 3), 9);
        x.year(seed(0, 2, 1), 1);
        is("1 less 1", x.of(0, 3), 0);
        x.year(seed(0, 2, 0), 1);
        is("0 less 1", x.of(0, 3), NONE);
        is("steps", x.about(6), 3);
        is("no day by it", x.about(2), 0);
        is("nobody is out by it", x.about(7), 0);
        is("no wage by it", x.of(0, 0), 1);
    }

    private static void yearOfAMorning() {
        says("V: if 3 a MORNING comes");
        LettersOnStrike x = Edges.fresh();
        x.tie(0, 1);
        x.strike(2);
        x.morning(1);
        is("a joins b", x.year(seed(7, 3, NONE), 1), 2);
        is("day", x.about(2), 2);
        is("since of b", x.of(1, 1), 2);
        is("since of a", x.of(0, 1), 0);
        is("one step", x.about(6), 3);
        is("the year is taken back", x.undo(), 2);
        is("day", x.about(2), 1);
        is("who is out", x.about(7), 2);
    }

    private static void yearOnTheLastDay() {
        says("V: DAY 999 stays; without it nothing");
        LettersOnStrike x = Edges.fresh();
        Edges.until(x, 998);
        x.strike(1);
        x.by(Due.text(x, "joins 1=1;returns 1=1;"));
        int seed = seed(7, 3, NONE);
        is("from day 998 all change", x.year(seed, 1), 25);
        is("day", x.about(2), 999);
        is("since", x.of(5, 1), 0);
        is("from day 999 none does", x.year(seed, 1), 25);
        is("day 999 stays", x.about(2), 999);
        is("since stays", x.of(5, 1), 0);
        is("who is out stays", x.about(7), Edges.ALL - 1);
        is("X is drawn anew", x.about(3), drawn(drawn(seed * 5 + 17)));
        LettersOnStrike y = Edges.fresh();
        Edges.until(y, 999);
        y.year(seed, 1);
        is("999 at most", y.of(5, 1), 999);
    }

    private static void yearIsOneStep() {
        says("V: It is one STEP");
        LettersOnStrike x = Edges.busy();
        String before = Edges.look(x);
        int steps = x.about(6);
        x.year(4711, 40);
        is("steps", x.about(6), steps + 1);
        is("undo", x.undo(), steps);
        Edges.unchanged(x, before);
        is("X as ahead of it", x.about(3), 17);
    }

    // ---- steps: promise 18

    /** A step of its own of each kind; look by look they are taken back. */
    private static void eachStep() {
        says("I: STEPS: a MORNING (each), CALLED OUT, CALLED BACK, RAISED, a SIGN, SIGNED, A YEAR");
        for (int kind = 0; kind < 7; kind++) {
            LettersOnStrike x = Edges.busy();
            String before = Edges.look(x);
            int steps = x.about(6);
            switch (kind) {
                case 0 -> x.morning(1);
                case 1 -> x.strike(3);
                case 2 -> x.comeBack(set("tz"));
                case 3 -> x.raise(4, 50);
                case 4 -> x.sign(4, 0);
                case 5 -> x.contract(1);
                default -> x.year(12, 12);
            }
            is("kind " + kind + ": steps", x.about(6), steps + 1);
            is("kind " + kind + ": undo", x.undo(), steps);
            Edges.unchanged(x, before);
        }
    }

    private static void aMorningEach() {
        says("I: a MORNING (each)");
        LettersOnStrike x = Edges.fresh();
        x.morning(5);
        is("steps", x.about(6), 5);
        x.undo();
        x.undo();
        is("two days back", x.about(2), 3);
        is("since", x.of(0, 1), 3);
    }

    private static void latestThirty() {
        says("I: the latest 30 can be taken back, the latest first");
        LettersOnStrike x = Edges.fresh();
        for (int i = 0; i < 29; i++) {
            x.raise(0, 30 + i);
        }
        is("29", x.about(6), 29);
        x.raise(0, 59);
        is("30", x.about(6), 30);
        x.raise(0, 60);
        is("30 yet", x.about(6), 30);
        for (int i = 29; i >= 0; i--) {
            is("undo", x.undo(), i);
            is("the wage ahead of it", x.of(0, 0), 30 + i);
        }
        is("the first one stays done", x.undo(), NONE);
        is("its wage", x.of(0, 0), 30);
    }

    private static void latestThirtyAgain() {
        says("I: the latest 30 (again and again, some taken back in between)");
        LettersOnStrike x = Edges.fresh();
        for (int i = 0; i < 47; i++) {
            x.raise(0, 2 + i);
        }
        for (int i = 0; i < 20; i++) {
            x.undo();
        }
        is("of the 27th", x.of(0, 0), 28);
        is("10 are left", x.about(6), 10);
        for (int i = 0; i < 25; i++) {
            x.raise(0, 60 + i);
        }
        is("30", x.about(6), 30);
        for (int i = 24; i > 0; i--) {
            is("undo", x.undo(), 5 + i);
            is("the wage ahead of it", x.of(0, 0), 59 + i);
        }
        for (int i = 5; i >= 0; i--) {
            is("undo", x.undo(), i);
            is("the wage ahead of it", x.of(0, 0), 23 + i);
        }
        is("none", x.undo(), NONE);
    }

    private static void noneToTakeBack() {
        says("18: NONE: there is none");
        LettersOnStrike x = Edges.fresh();
        String before = Edges.look(x);
        is("at first", x.undo(), NONE);
        is("again", x.undo(), NONE);
        Edges.unchanged(x, before);
        x.strike(1);
        is("the only one", x.undo(), 0);
        is("none more", x.undo(), NONE);
    }

    private static void noSteps() {
        says("I: STEPS (nothing else is one, and nothing else is taken back)");
        LettersOnStrike x = Edges.fresh();
        Due.word(x, "tea", 2);
        x.saying(12);
        x.tie(0, 1);
        x.by(Due.text(x, "price 3;word sea means 1;say 1;tie b to c;"));
        x.party(1);
        x.printed(0, 0, true);
        x.image();
        is("no steps", x.about(6), 0);
        is("nothing to take back", x.undo(), NONE);
        x.strike(1);
        x.tie(2, 3);
        Due.word(x, "rum", 3);
        x.saying(13);
        x.played(0);
        x.party(2);
        x.printed(1, 1, true);
        is("undo", x.undo(), 0);
        is("words", x.about(0), 3);
        is("sayings", x.about(1), 3);
        is("ties of c", x.of(2, 4), 8);
        is("ties of b", x.of(1, 4), 4);
        is("texts", x.about(4), 1);
        is("the text", x.about(5), 0);
        is("parties", x.about(8), 2);
        is("printed", x.about(9), 2);
    }

    private static void refusedIsNoStep() {
        says("I: STEPS (a refused call is none)");
        LettersOnStrike x = Edges.fresh();
        x.morning(0);
        x.strike(0);
        x.comeBack(1);
        x.raise(0, 1);
        x.sign(0, NONE);
        x.contract(0);
        x.year(0, 0);
        is("steps", x.about(6), 0);
    }

    // ---- promise 19

    private static void ofOthers() {
        says("19: -2 for others");
        LettersOnStrike x = Edges.busy();
        int[] letters = {-1, 26, -2, 32, Edges.LEAST, Edges.MOST};
        for (int letter : letters) {
            for (int what = 0; what <= 6; what++) {
                is("of(" + letter + ", " + what + ")", x.of(letter, what), -2);
            }
        }
        int[] whats = {-1, 7, 8, 10, Edges.LEAST, Edges.MOST};
        for (int what : whats) {
            is("of(0, " + what + ")", x.of(0, what), -2);
            is("of(25, " + what + ")", x.of(25, what), -2);
        }
    }

    private static void signOfNone() {
        says("19: 3 SIGN (NONE)");
        LettersOnStrike x = Edges.busy();
        is("t", x.of(19, 3), 4);
        is("z, though it is out", x.of(25, 3), NONE);
        is("a", x.of(0, 3), NONE);
    }

    private static void wordsThatHaveIt() {
        says("19: 5 how many WORDS have it");
        LettersOnStrike x = Edges.fresh();
        is("none", x.of(0, 5), 0);
        Due.word(x, "aa", 1);
        is("twice in one", x.of(0, 5), 1);
        Due.word(x, "bcdefgha", 1);
        is("at the end of another", x.of(0, 5), 2);
        x.strike(1);
        is("though it is out", x.of(0, 5), 2);
        is("z", x.of(25, 5), 0);
    }

    private static void wouldMove() {
        says("19: 6 whether it would come back or walk out this MORNING (1, 0)");
        LettersOnStrike x = Edges.fresh();
        x.strike(3);
        x.by(Due.text(x, "joins letter=2;returns letter=1;"));
        is("a stays out", x.of(0, 6), 0);
        is("b would come back", x.of(1, 6), 1);
        is("c would walk out", x.of(2, 6), 1);
        is("d stays in", x.of(3, 6), 0);
        is("nothing was done by asking", x.about(7), 3);
        is("day", x.about(2), 0);
    }

    public static void main(String[] args) {
        nothingAtFirst();
        firstValues();
        imageAtFirst();
        tieOfAnother();
        tieOfOthers();
        tieThatIsThere();
        tieByText();
        sinceUpTo999();
        vowels();
        morningsFrom1To99();
        morningsOfOthers();
        morningsBeyondTheLastDay();
        allAtOnce();
        dayAheadOfTheMorning();
        outComesBackElseWalksOut();
        sinceBehindAMorning();
        withoutJoins();
        withoutReturns();
        calledOut();
        calledOutOthers();
        allAreOut();
        calledBack();
        calledBackOthers();
        noneIsOut();
        raised();
        raisedOthers();
        raisedAlready();
        signed();
        signedOthers();
        signedAlready();
        yearsFromTo();
        yearsOfOthers();
        yearOfAWage();
        yearOfAWalk();
        yearOfASign();
        yearOfAMorning();
        yearOnTheLastDay();
        yearIsOneStep();
        eachStep();
        aMorningEach();
        latestThirty();
        latestThirtyAgain();
        noneToTakeBack();
        noSteps();
        refusedIsNoStep();
        ofOthers();
        signOfNone();
        wordsThatHaveIt();
        wouldMove();
        Due.end("LettersEdgesTest");
    }
}
