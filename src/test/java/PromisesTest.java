/** Each promise of the document by hand: ordinary inputs, the edges that it names, wrong inputs. */
public final class PromisesTest {
    private static final int NONE = LettersOnStrike.NONE;

    private static LettersOnStrike fresh() {
        return new LettersOnStrike();
    }

    /** tea 2, sea 2, rum 2, loaf 1, bread 1; sayings 0: 1 2, 1: 2 2, 2: 5. */
    private static LettersOnStrike pantry() {
        LettersOnStrike x = fresh();
        Due.word(x, "tea", 2);
        Due.word(x, "sea", 2);
        Due.word(x, "rum", 2);
        Due.word(x, "loaf", 1);
        Due.word(x, "bread", 1);
        x.saying(112);
        x.saying(122);
        x.saying(15);
        return x;
    }

    private static void due(String call, long got, long want) {
        Due.due(call, got, want);
    }

    private static void due(String call, boolean got, boolean want) {
        Due.due(call, got, want);
    }

    private static void newObject() {
        LettersOnStrike x = fresh();
        int[] about = {0, 0, 0, 17, 0, NONE, 0, 0, 0, 0, 0, 0};
        for (int what = 0; what < about.length; what++) {
            due("1: about(" + what + ")", x.about(what), about[what]);
        }
        for (int letter = 0; letter < 26; letter++) {
            int[] of = {1, 0, 0, NONE, 0, 0, 0};
            for (int what = 0; what < of.length; what++) {
                due("1: of(" + letter + ", " + what + ")", x.of(letter, what), of[what]);
            }
        }
        Due.word(x, "a", 1);
        x.strike(1);
        x.tie(0, 1);
        due("1: back to the new object", x.back(), 0);
        due("1: words", x.about(0), 0);
        due("1: outs", x.about(7), 0);
        due("1: ties", x.of(0, 4), 0);
        due("1: steps", x.about(6), 0);
    }

    private static void ties() {
        LettersOnStrike x = fresh();
        due("2: tie", x.tie(3, 25), true);
        due("2: again", x.tie(3, 25), false);
        due("2: the other way", x.tie(25, 3), true);
        due("2: itself", x.tie(4, 4), false);
        due("2: below", x.tie(-1, 4), false);
        due("2: above", x.tie(26, 4), false);
        due("2: to below", x.tie(4, -1), false);
        due("2: to above", x.tie(4, 26), false);
        due("2: far", x.tie(Integer.MIN_VALUE, Integer.MAX_VALUE), false);
        due("2: ties of d", x.of(3, 4), 1 << 25);
        due("2: ties of z", x.of(25, 4), 1 << 3);
        due("2: no step", x.about(6), 0);
    }

    private static void words() {
        LettersOnStrike x = fresh();
        due("3: abcdefgh", x.word(0x64636261, 0x68676665, 9), 0);
        due("3: a", x.word('a', 0, 0), 1);
        due("3: none", x.word(0, 0, 0), NONE);
        due("3: gap", x.word(0x00610000 | 'a', 0, 0), NONE);
        due("3: gap of four", x.word('b', 'b', 0), NONE);
        due("3: A", x.word('A', 0, 0), NONE);
        due("3: `", x.word(96, 0, 0), NONE);
        due("3: {", x.word(123, 0, 0), NONE);
        due("3: high byte", x.word(0xFF000000 | 0x636261, 0, 0), NONE);
        due("3: bad in other", x.word(0x64636261, 0x80, 0), NONE);
        due("3: sense -1", x.word('c', 0, -1), NONE);
        due("3: sense 10", x.word('c', 0, 10), NONE);
        due("3: told already", x.word('a', 0, 0), NONE);
        due("3: told with another sense", x.word('a', 0, 1), NONE);
        due("3: aa is another", Due.word(x, "aa", 0), 2);
        due("3: abcdefg is another", Due.word(x, "abcdefg", 0), 3);
        for (int i = 4; i < 24; i++) {
            due("3: word " + i, Due.word(x, "z" + (char) ('a' + i), 3), i);
        }
        due("3: a 25th", Due.word(x, "y", 3), NONE);
        due("3: words", x.about(0), 24);
        due("3: its last letter", x.ofWord(0, 17), 7);
    }

    private static void sayings() {
        LettersOnStrike x = fresh();
        int[] wrong = {0, 1, 2, 9, -1, -12, 20, 99, 212, 912, 1000000000, 1123456789, 200000000,
            Integer.MAX_VALUE, Integer.MIN_VALUE};
        for (int senses : wrong) {
            due("4: saying(" + senses + ")", x.saying(senses), NONE);
        }
        due("4: 10", x.saying(10), 0);
        due("4: 199999999", x.saying(199999999), 1);
        due("4: 100000000", x.saying(100000000), 2);
        due("4: 123", x.saying(123), 3);
        due("4: 123 again", x.saying(123), 4);
        due("4: 19", x.saying(19), 5);
        due("4: 1000", x.saying(1000), 6);
        due("4: 12", x.saying(12), 7);
        due("4: a 9th", x.saying(12), NONE);
        due("4: sayings", x.about(1), 8);
        due("4: of 10", x.ofSaying(0, 0), 1);
        due("4: its sense", x.ofSaying(0, 10), 0);
        due("4: of 199999999", x.ofSaying(1, 0), 8);
        due("4: its last", x.ofSaying(1, 17), 9);
        due("4: first of 123", x.ofSaying(3, 10), 2);
        due("4: second of 123", x.ofSaying(3, 11), 3);
    }

    private static void tape() {
        LettersOnStrike x = fresh();
        for (int i = 1; i <= 15; i++) {
            due("5: feed " + i, x.feed(0, -1, 0, 0, 0), 20 * i);
        }
        due("5: feed a 16th", x.feed(0, 0, 0, 0, 0), NONE);
        due("5: none come", x.about(10), 300);
        due("6: 301", x.end(301), NONE);
        due("6: -1", x.end(-1), NONE);
        due("6: all stay", x.about(10), 300);
        due("6: 281", x.end(281), 281);
        due("5: 301 would be too many", x.feed(0, 0, 0, 0, 0), NONE);
        due("6: 282", x.end(282), NONE);
        due("6: 280", x.end(280), 280);
        due("5: 300 are not", x.feed(0, 0, 0, 0, 0), 300);
        due("6: 0", x.end(0), 0);
        due("6: 0 again", x.end(0), 0);
        // the highest byte of a first: "price 1;"
        x.feed(0x70726963, 0x6520313b, 0x20202020, 0x0a0a0a0a, 0x20202021);
        due("6: without the !", x.end(19), 19);
        due("7: a text", x.text(), 0);
        due("7: the tape is empty then", x.about(10), 0);
    }

    private static void texts() {
        LettersOnStrike x = fresh();
        due("8: ahead of any", x.fault(0), NONE);
        due("8: place ahead of any", x.fault(1), NONE);
        due("7: a fault", Due.text(x, "price !"), NONE);
        due("7: the tape was read", x.about(10), 0);
        due("8: fault", x.fault(0), 1);
        due("8: place", x.fault(1), 6);
        due("8: 2", x.fault(2), NONE);
        due("8: -1", x.fault(-1), NONE);
        for (int i = 0; i < 4; i++) {
            due("7: text " + i, Due.text(x, "price " + i + ";"), i);
        }
        due("8: none", x.fault(0), 0);
        due("8: no place", x.fault(1), NONE);
        due("7: a fifth", Due.text(x, "walk"), NONE);
        due("7: the tape stays", x.about(10), 4);
        due("8: it was not read", x.fault(0), 0);
        due("7: texts", x.about(4), 4);
        due("9: by 3", x.by(3), true);
        due("9: rules", x.about(5), 3);
        due("9: by 4", x.by(4), false);
        due("9: by -2", x.by(-2), false);
        due("9: still rules", x.about(5), 3);
        due("9: by 3 again", x.by(3), true);
        due("9: by none", x.by(NONE), true);
        due("9: none rules", x.about(5), NONE);
        due("9: none again", x.by(NONE), true);
        due("9: by 0 of none", fresh().by(0), false);
        due("9: none of none", fresh().by(NONE), true);
    }

    private static void mornings() {
        LettersOnStrike x = fresh();
        due("10: 0", x.morning(0), NONE);
        due("10: 100", x.morning(100), NONE);
        due("10: -1", x.morning(-1), NONE);
        x.tie(0, 1);
        x.tie(2, 0);
        x.strike(2);
        due("10: none was in a day", x.morning(1), 1);
        due("10: a joins b", x.morning(1), 2);
        due("10: c joins a", x.morning(1), 3);
        due("10: a is out", x.of(0, 2), 1);
        due("10: its since", x.of(0, 1), 1);
        due("10: c's since", x.of(2, 1), 0);
        due("10: b's since", x.of(1, 1), 3);
        due("10: d's since", x.of(3, 1), 3);
        x.raise(1, 10);
        due("19: b would come back", x.of(1, 6), 1);
        due("19: a would not", x.of(0, 6), 0);
        due("10: b comes back", x.morning(1), 2);
        due("10: b's since", x.of(1, 1), 0);
        due("10: a stays by c? its tie is in", x.morning(1), 2);
        due("10: day", x.about(2), 5);
        for (int i = 0; i < 10; i++) {
            x.morning(99);
        }
        due("10: day", x.about(2), 995);
        due("10: beyond 999", x.morning(5), NONE);
        due("10: nothing was done", x.about(2), 995);
        due("10: to 999", x.morning(4), 2);
        due("10: day 999", x.about(2), 999);
        due("10: since goes to 999", x.of(3, 1), 999);
        due("10: no more", x.morning(1), NONE);
        due("18: a morning is a step each", x.about(6), 30);
        due("18: undo", x.undo(), 29);
        due("18: day 998", x.about(2), 998);
    }

    /** All at once: two tied to one another change places, by how they stood ahead. */
    private static void morningsAllAtOnce() {
        LettersOnStrike x = fresh();
        x.tie(0, 1);
        x.tie(1, 0);
        due("10: text", Due.text(x, "joins tied>0 and day<5;returns 1=1;"), 0);
        x.by(0);
        x.strike(1);
        due("10: b for a", x.morning(1), 1);
        due("10: b out", x.about(7), 2);
        due("10: a for b", x.morning(1), 1);
        due("10: a out", x.about(7), 1);
        x.morning(3);
        due("10: b out at day 5", x.about(7), 2);
        due("10: day is that ahead of it", x.morning(1), 0);
    }

    private static void calls() {
        LettersOnStrike x = fresh();
        due("11: empty", x.strike(0), NONE);
        due("11: below", x.strike(-1), NONE);
        due("11: above", x.strike(1 << 26), NONE);
        due("11: least", x.strike(Integer.MIN_VALUE), NONE);
        due("12: none out", x.comeBack(7), NONE);
        due("11: all three", x.strike(7), 3);
        due("11: all are out", x.strike(5), NONE);
        x.morning(2);
        due("11: only d", x.strike(15), 1);
        due("11: d is new", x.of(3, 1), 0);
        due("11: a is not", x.of(0, 1), 2);
        due("12: empty", x.comeBack(0), NONE);
        due("12: above", x.comeBack(1 << 26 | 1), NONE);
        due("12: a and z", x.comeBack(1 | 1 << 25), 1);
        due("12: a is new", x.of(0, 1), 0);
        due("12: z is not", x.of(25, 1), 2);
        due("12: a again", x.comeBack(1), NONE);
        due("11: who is out", x.about(7), 14);
        due("11: how many", x.about(11), 3);
        due("11: steps", x.about(6), 5);
        due("11: all", x.strike((1 << 26) - 1), 23);
    }

    private static void wagesAndSigns() {
        LettersOnStrike x = fresh();
        due("13: 1 is so", x.raise(0, 1), false);
        due("13: 0", x.raise(0, 0), true);
        due("13: 99", x.raise(25, 99), true);
        due("13: 100", x.raise(0, 100), false);
        due("13: -1", x.raise(0, -1), false);
        due("13: letter -1", x.raise(-1, 5), false);
        due("13: letter 26", x.raise(26, 5), false);
        due("13: wage of a", x.of(0, 0), 0);
        due("13: wage of z", x.of(25, 0), 99);
        due("14: none is so", x.sign(0, NONE), false);
        due("14: 0", x.sign(0, 0), true);
        due("14: 0 is so", x.sign(0, 0), false);
        due("14: 9", x.sign(0, 9), true);
        due("14: 10", x.sign(0, 10), false);
        due("14: -2", x.sign(0, -2), false);
        due("14: letter -1", x.sign(-1, 1), false);
        due("14: letter 26", x.sign(26, 1), false);
        due("14: another with 9", x.sign(1, 9), true);
        due("14: sign of a", x.of(0, 3), 9);
        due("14: none", x.sign(0, NONE), true);
        due("14: sign of a", x.of(0, 3), NONE);
        due("14: steps", x.about(6), 6);
    }

    private static void contracts() {
        LettersOnStrike x = pantry();
        due("15: none told", x.contract(3), NONE);
        due("15: -1", x.contract(-1), NONE);
        due("15: can't be said", x.contract(2), NONE);
        due("15: no step", x.about(6), 0);
        x.morning(2);
        x.strike(Due.set("t"));
        due("15: the first", x.contract(0), 0);
        due("38: how many", x.signed(NONE, 77), 1);
        due("38: saying", x.signed(0, 0), 0);
        due("38: day", x.signed(0, 1), 2);
        due("38: words", x.signed(0, 2), 2);
        due("38: loaf", x.signed(0, 10), 3);
        due("38: sea for tea", x.signed(0, 11), 1);
        due("38: no third", x.signed(0, 12), -2);
        due("38: binds", x.signed(0, 3), 1);
        due("38: broken", x.signed(0, 4), 0);
        due("38: loophole a", x.signed(0, 5), 0);
        due("38: 6", x.signed(0, 6), -2);
        due("38: 9", x.signed(0, 9), -2);
        due("38: -1", x.signed(0, -1), -2);
        due("38: far", x.signed(0, Integer.MAX_VALUE), -2);
        due("38: a second", x.signed(1, 0), -2);
        due("38: -2", x.signed(-2, 0), -2);
        x.strike(Due.set("a"));
        due("38: lapsed", x.signed(0, 3), 0);
        due("38: both broken", x.signed(0, 4), 2);
        due("38: no loophole", x.signed(0, 5), NONE);
        x.sign(0, 3);
        due("38: binds again", x.signed(0, 3), 1);
        due("38: loophole e", x.signed(0, 5), 4);
        x.comeBack(1);
        due("38: a in, with a sign it would not lapse", x.signed(0, 5), 4);
        for (int i = 1; i < 10; i++) {
            due("15: contract " + i, x.contract(1), i);
        }
        due("15: an 11th", x.contract(1), NONE);
        due("38: how many", x.signed(NONE, 0), 10);
        x.undo();
        due("18: a contract goes", x.signed(NONE, 0), 9);
        due("18: it is gone", x.signed(9, 0), -2);
        due("15: another one", x.contract(0), 9);
        due("38: its saying", x.signed(9, 0), 0);
    }

    private static void bindsByText() {
        LettersOnStrike x = pantry();
        x.contract(1);
        Due.text(x, "binds broken<many and days<3;");
        Due.text(x, "binds outs#2;");
        Due.text(x, "binds broken=0 or day>1;");
        x.by(0);
        due("38: one letter breaks both, tea twice", x.signed(0, 5), 0);
        x.strike(Due.set("s"));
        due("38: tea stands", x.signed(0, 4), 0);
        x.morning(2);
        due("38: day 2", x.signed(0, 3), 1);
        x.morning(1);
        due("38: day 3", x.signed(0, 3), 0);
        x.by(1);
        due("38: one out", x.signed(0, 3), 1);
        due("38: whoever is the second", x.signed(0, 5), 0);
        x.by(2);
        x.strike(Due.set("a"));
        due("38: broken, but late", x.signed(0, 3), 1);
        due("38: nothing makes it lapse", x.signed(0, 5), NONE);
        x.by(NONE);
        due("38: without a text", x.signed(0, 3), 0);
    }

    private static void played() {
        LettersOnStrike x = fresh();
        due("16: none told", x.played(0), -2);
        due("16: -1", x.played(-1), -2);
        Due.text(x, "price 1;word tea means 2;say 2;strike tea;back t;raise ab by 98;"
            + "sign za as 4;sign a as none;tie te to ea;morning 3;joins 1=1;");
        due("16: 1", x.played(1), -2);
        due("16: all is done", x.played(0), NONE);
        due("16: words", x.about(0), 1);
        due("16: sayings", x.about(1), 1);
        due("16: a came back, t joined", x.about(7), Due.set("et"));
        due("16: wage of a", x.of(0, 0), 99);
        due("16: sign of z", x.of(25, 3), 4);
        due("16: sign of a", x.of(0, 3), NONE);
        due("16: t to e, a", x.of(19, 4), Due.set("ea"));
        due("16: e to a", x.of(4, 4), Due.set("a"));
        due("16: day", x.about(2), 3);
        due("16: steps", x.about(6), 10);
        due("16: no law by it", x.about(5), NONE);
        due("16: told already", x.played(0), 1);
    }

    private static int playedAll(LettersOnStrike x, String text) {
        int number = Due.text(x, text);
        return x.played(number);
    }

    private static void playedStops() {
        due("16: back none", playedAll(fresh(), "price 1;back a;"), 1);
        due("16: raise to 99 and over", playedAll(fresh(), "raise a by 99;raise ab by 1;raise a by 1;"), 2);
        due("16: sign is so", playedAll(fresh(), "sign ab as 1;sign abc as 1;sign abc as 1;"), 2);
        due("16: none is so", playedAll(fresh(), "sign a as none;"), 0);
        due("16: out already", playedAll(fresh(), "strike ab;strike abc;strike b;"), 2);
        due("16: itself alone", playedAll(fresh(), "tie a to a;"), 0);
        due("16: tied already", playedAll(fresh(), "tie ab to c;tie ab to bc;tie a to bc;"), 2);
        due("16: no such saying", playedAll(fresh(), "contract 0;"), 0);
        due("16: can't be said", playedAll(fresh(), "say 1;contract 0;"), 1);
        due("16: told already", playedAll(fresh(), "word a means 1;word a means 2;"), 1);
        due("16: nine sayings", playedAll(fresh(), "say 1;".repeat(9)), 8);
        due("16: eleven contracts", playedAll(fresh(), "word a means 1;say 1;" + "contract 0;".repeat(11)), 12);
        due("16: one of two is raised", playedAll(fresh(), "raise b by 99;raise ab by 1;"), NONE);
        due("16: one of two is signed", playedAll(fresh(), "sign b as 1;sign ab as 1;"), NONE);
        LettersOnStrike x = fresh();
        due("16: a step each", playedAll(x, "raise cab by 5;sign ab as 1;strike abc;"), NONE);
        due("16: steps", x.about(6), 6);
        x.undo();
        x.undo();
        due("16: from a on, so b is the last", x.of(1, 3), NONE);
        due("16: a has its sign", x.of(0, 3), 1);
        LettersOnStrike y = fresh();
        Due.text(y, "morning 99;");
        for (int i = 0; i < 10; i++) {
            due("16: mornings", y.played(0), NONE);
        }
        due("16: day", y.about(2), 990);
        due("16: nine of ninety-nine", y.played(0), 0);
        due("16: day", y.about(2), 999);
        due("16: none", y.played(0), 0);
    }

    private static void years() {
        LettersOnStrike x = fresh();
        due("17: 0", x.year(0, 0), NONE);
        due("17: 41", x.year(0, 41), NONE);
        due("17: seed -1", x.year(-1, 1), NONE);
        due("17: seed 10000", x.year(10000, 1), NONE);
        due("17: X stays", x.about(3), 17);
        due("17: no step", x.about(6), 0);
        due("17: year(9999, 40)", x.year(9999, 40), x.about(11));
        due("17: one step", x.about(6), 1);
        due("18: back", x.undo(), 0);
        due("18: X", x.about(3), 17);
        due("18: day", x.about(2), 0);
        x.morning(60);
        for (int i = 0; i < 50; i++) {
            x.year(i, 40);
        }
        for (int i = 0; i < 99 && x.about(2) < 990; i++) {
            x.morning(9);
        }
        x.comeBack((1 << 26) - 1);
        x.by(Due.text(x, "joins 1=1;returns 1=1;"));
        x.morning(999 - x.about(2));
        int out = x.about(11);
        yearOnTheLastDay(x, out);
        LettersOnStrike y = fresh();
        y.year(3, 1);
        // X 32: letter 6; then 6849, mod 4 is 1: g goes out; then 6849 * 211 + 97 = 1445236, rest 28703.
        due("17: g is out", y.about(7), 1 << 6);
        due("17: X", y.about(3), 28703);
        y.year(3, 1);
        due("17: g comes back", y.about(7), 0);
    }

    /** On the last day a year that drew a morning leaves all as it was. */
    private static void yearOnTheLastDay(LettersOnStrike x, int out) {
        due("17: day 999", x.about(2), 999);
        int drawn = 0;
        for (int seed = 0; seed < 20; seed++) {
            int next = ((seed * 5 + 17) * 211 + 97) % 30139;
            if (next % 4 == 3) {
                int since = x.of(0, 1);
                due("17: nothing comes", x.year(seed, 1), out);
                due("17: the day stays", x.about(2), 999);
                due("17: since stays", x.of(0, 1), since);
                due("17: X is drawn all the same", x.about(3), (next * 211 + 97) % 30139);
                drawn++;
            }
        }
        due("17: mornings were drawn", drawn > 0, true);
    }

    private static void undoes() {
        LettersOnStrike x = fresh();
        due("18: none", x.undo(), NONE);
        x.raise(0, 5);
        x.sign(0, 5);
        x.strike(1);
        x.morning(2);
        x.comeBack(1);
        due("18: steps", x.about(6), 6);
        due("18: undo", x.undo(), 5);
        due("18: a out", x.of(0, 2), 1);
        due("18: its since", x.of(0, 1), 2);
        due("18: undo", x.undo(), 4);
        due("18: day", x.about(2), 1);
        due("18: undo", x.undo(), 3);
        due("18: undo", x.undo(), 2);
        due("18: a in", x.of(0, 2), 0);
        due("18: sign", x.of(0, 3), 5);
        due("18: undo", x.undo(), 1);
        due("18: no sign", x.of(0, 3), NONE);
        due("18: undo", x.undo(), 0);
        due("18: wage", x.of(0, 0), 1);
        due("18: none", x.undo(), NONE);
        for (int i = 0; i < 40; i++) {
            x.raise(3, i + 2);
        }
        due("18: the latest 30", x.about(6), 30);
        for (int i = 29; i >= 0; i--) {
            due("18: undo", x.undo(), i);
        }
        due("18: no more", x.undo(), NONE);
        due("18: the wage behind the tenth", x.of(3, 0), 11);
    }

    private static void ofAll() {
        LettersOnStrike x = pantry();
        due("19: letter -1", x.of(-1, 0), -2);
        due("19: letter 26", x.of(26, 0), -2);
        due("19: what 7", x.of(0, 7), -2);
        due("19: what -1", x.of(0, -1), -2);
        due("19: words with a", x.of(0, 5), 4);
        due("19: words with z", x.of(25, 5), 0);
        due("20: letters", x.ofWord(4, 0), 5);
        due("20: sense", x.ofWord(4, 1), 1);
        due("20: bits", x.ofWord(0, 2), Due.set("tea"));
        due("20: first", x.ofWord(4, 10), 1);
        due("20: last", x.ofWord(4, 14), 3);
        due("20: behind", x.ofWord(4, 15), NONE);
        due("20: 4", x.ofWord(4, 4), NONE);
        due("20: 9", x.ofWord(4, 9), NONE);
        due("20: -1", x.ofWord(4, -1), NONE);
        due("20: far", x.ofWord(4, Integer.MIN_VALUE), NONE);
        due("20: none such", x.ofWord(5, 0), NONE);
        due("20: word -1", x.ofWord(-1, 0), NONE);
        due("20: can", x.ofWord(0, 3), 1);
        x.strike(Due.set("t"));
        due("20: can't", x.ofWord(0, 3), 0);
        due("20: sea can", x.ofWord(1, 3), 1);
        x.sign(19, 0);
        due("20: by a sign", x.ofWord(0, 3), 1);
        due("21: senses", x.ofSaying(0, 0), 2);
        due("21: second", x.ofSaying(0, 11), 2);
        due("21: third", x.ofSaying(0, 12), NONE);
        due("21: 1", x.ofSaying(0, 1), NONE);
        due("21: 9", x.ofSaying(0, 9), NONE);
        due("21: none such", x.ofSaying(3, 0), NONE);
        due("21: -1", x.ofSaying(-1, 0), NONE);
    }

    private static void mistakes() {
        LettersOnStrike x = pantry();
        due("22: unlike", x.mistaken(0, 1), false);
        x.sign(19, 5);
        x.sign(18, 5);
        due("22: nobody is out", x.mistaken(0, 1), false);
        x.strike(Due.set("t"));
        due("22: one is out", x.mistaken(0, 1), false);
        x.strike(Due.set("s"));
        due("22: both are", x.mistaken(0, 1), true);
        due("22: the other way", x.mistaken(1, 0), true);
        due("22: itself", x.mistaken(0, 0), false);
        due("22: not as long", x.mistaken(0, 3), false);
        due("22: none such", x.mistaken(0, 5), false);
        due("22: -1", x.mistaken(-1, 0), false);
        x.strike(Due.set("e"));
        due("22: neither can be written", x.ofWord(0, 3) + x.ofWord(1, 3), 0);
        due("22: they look alike all the same", x.mistaken(0, 1), true);
        due("22: the other way, too", x.mistaken(1, 0), true);
        x.sign(4, 5);
        due("22: both can", x.mistaken(0, 1), true);
        x.sign(18, NONE);
        due("22: t as 5, s as itself", x.mistaken(0, 1), false);
        x.sign(19, NONE);
        due("22: each as itself", x.mistaken(0, 1), false);
        x.sign(18, 0);
        x.sign(19, 0);
        due("22: both as 0", x.mistaken(0, 1), true);
        x.comeBack(Due.set("t"));
        due("22: t is back", x.mistaken(0, 1), false);
        mistakesOfUnwritten();
    }

    /** Whether a word can be written doesn't count: only how the two look, place by place. */
    private static void mistakesOfUnwritten() {
        LettersOnStrike x = new LettersOnStrike();
        Due.word(x, "ax", 0);
        Due.word(x, "bx", 1);
        Due.word(x, "ay", 2);
        Due.word(x, "axx", 3);
        x.strike(Due.set("abxy"));
        x.sign(0, 3);
        x.sign(1, 3);
        due("22: x is out without a sign in both", x.mistaken(0, 1), true);
        due("22: x and y are out without signs", x.mistaken(0, 2), false);
        due("22: bx and ay", x.mistaken(1, 2), false);
        due("22: one is longer", x.mistaken(0, 3), false);
        x.sign(23, 3);
        x.sign(24, 3);
        due("22: all as 3", x.mistaken(1, 2), true);
        due("22: all as 3, one is longer", x.mistaken(0, 3), false);
        x.sign(1, NONE);
        due("22: bx has lost a sign", x.mistaken(0, 1), false);
        due("22: ax and ay", x.mistaken(0, 2), true);
    }

    private static void howSaid() {
        LettersOnStrike x = pantry();
        due("23: letters", x.said(0, 0, NONE), 7);
        due("23: loaf", x.said(0, 0, 0), 3);
        due("23: tea, the lowest of three", x.said(0, 0, 1), 0);
        due("23: third", x.said(0, 0, 2), NONE);
        due("23: -2", x.said(0, 0, -2), NONE);
        due("23: without l: bread", x.said(0, Due.set("l"), 0), 4);
        due("23: without e and a", x.said(0, Due.set("ea"), NONE), NONE);
        due("23: without e: rum", x.said(1, Due.set("e"), 0), 2);
        due("23: set -2", x.said(0, -2, NONE), NONE);
        due("23: set above", x.said(0, 1 << 26, NONE), NONE);
        due("23: all", x.said(0, (1 << 26) - 1, NONE), NONE);
        due("23: no word", x.said(2, 0, NONE), NONE);
        due("23: none such", x.said(3, 0, NONE), NONE);
        due("23: -1", x.said(-1, 0, NONE), NONE);
        x.strike(Due.set("l"));
        x.sign(19, 1);
        due("23: now without l", x.said(0, NONE, NONE), 8);
        due("23: a set has nobody out but itself", x.said(0, 0, NONE), 7);
        x.sign(11, 1);
        due("23: l has a sign", x.said(0, NONE, NONE), 7);
        due("23: signs aside", x.said(0, Due.set("l"), NONE), 8);
    }

    private static void prices() {
        LettersOnStrike x = pantry();
        due("24: length and 1", x.dear(0), 9);
        due("24: none such", x.dear(3), NONE);
        due("24: -1", x.dear(-1), NONE);
        due("24: can't be", x.dear(2), NONE);
        Due.text(x, "price length*100+sense*10+signs+outs;");
        Due.text(x, "price 0-5;");
        Due.text(x, "price 5000;");
        Due.text(x, "joins 1=2;");
        x.by(0);
        due("24: loaf and tea", x.dear(0), 410 + 320);
        x.strike(Due.set("a"));
        x.sign(0, 7);
        due("24: with a sign in each", x.dear(0), 412 + 322);
        x.strike(Due.set("z"));
        due("24: one more out", x.dear(0), 413 + 323);
        x.by(1);
        due("24: 0 at least", x.dear(0), 0);
        x.by(2);
        due("24: 999 at most, each", x.dear(0), 1998);
        x.by(3);
        due("24: a text without price", x.dear(0), 9);
        x.sign(0, NONE);
        due("24: now it can't be said", x.dear(0), NONE);
        LettersOnStrike y = fresh();
        Due.word(y, "aab", 1);
        y.saying(11);
        y.strike(Due.set("a"));
        y.sign(0, 0);
        Due.text(y, "price signs;");
        y.by(0);
        due("24: a sign at each place", y.dear(0), 2);
    }

    private static void stops() {
        LettersOnStrike x = pantry();
        due("25: a stops loaf and bread", x.stop(0), Due.set("a"));
        due("25: two for tea, sea and rum", x.stop(1), Due.set("am"));
        due("25: none are needed", x.stop(2), 0);
        due("25: none such", x.stop(3), NONE);
        due("25: -1", x.stop(-1), NONE);
        LettersOnStrike y = fresh();
        for (int i = 0; i < 4; i++) {
            Due.word(y, "" + (char) ('z' - i), 1);
        }
        y.saying(11);
        due("25: four", y.stop(0), Due.set("wxyz"));
        Due.word(y, "b", 1);
        due("25: five", y.stop(0), NONE);
        due("26: spared", pantry().spared(false), 0);
        due("26: how many", pantry().spared(true), 2);
        due("26: none told", fresh().spared(true), 0);
        due("26: a of all", fresh().spared(false), 0);
        LettersOnStrike z = fresh();
        Due.word(z, "ox", 1);
        z.saying(11);
        z.saying(111);
        due("26: o", z.spared(false), 14);
        due("26: both", z.spared(true), 2);
    }

    private static void powers() {
        LettersOnStrike x = pantry();
        int group = Due.set("emr");
        // Behind e one of m, r stops 2 2: e is the pivot behind m or r.
        due("27: e upper", x.power(1, group, 4, false), 2);
        due("27: e lower", x.power(1, group, 4, true), 3);
        due("27: m upper", x.power(1, group, 12, false), 1);
        due("27: m lower", x.power(1, group, 12, true), 6);
        String neutral = "";
        for (char c : "cghijknpq".toCharArray()) {
            neutral += c;
            int some = Due.set(neutral + "a");
            due("27: a has all", x.power(0, some, 0, false), 1);
            due("27: of all", x.power(0, some, 0, true), 1);
            due("27: others have none", x.power(0, some, 2, false), 0);
        }
        // l ahead of f (1 of 2), but not ahead of all of f, b, r, d (1 of 5).
        due("27: l, f and b, r, d of ten", x.power(0, Due.set("lfbrdcghij"), 11, true), 10);
        due("27: l of those", x.power(0, Due.set("lfbrdcghij"), 11, false), 3);
        due("27: not in the group", x.power(1, group, 0, false), NONE);
        due("27: empty", x.power(1, 0, 0, false), NONE);
        due("27: eleven", x.power(1, (1 << 11) - 1, 0, false), NONE);
        due("27: ten", x.power(1, (1 << 10) - 1, 0, true), 1);
        due("27: the group can't stop it", x.power(1, (1 << 10) - 1, 0, false), 0);
        due("27: not said from the first on", x.power(2, group, 4, false), 0);
        due("27: by 1", x.power(2, group, 4, true), 1);
        due("27: none such", x.power(3, group, 4, false), NONE);
        due("27: -1", x.power(-1, group, 4, false), NONE);
        due("27: letter -1", x.power(1, group, -1, false), NONE);
        due("27: letter 32", x.power(1, 1, 32, false), NONE);
        due("27: above", x.power(1, 1 << 26 | 16, 4, false), NONE);
    }

    private static void parties() {
        LettersOnStrike x = pantry();
        due("28: empty", x.party(0), -2);
        due("28: -2", x.party(-2), -2);
        due("28: above", x.party(1 << 26), -2);
        due("29: no party", x.worth(0), 1);
        due("29: bit 0 of none", x.worth(1), NONE);
        due("30: no party", x.core(0, 0), NONE);
        due("28: e", x.party(Due.set("e")), 1);
        due("28: m", x.party(Due.set("m")), 2);
        due("28: m again", x.party(Due.set("m")), 3);
        due("28: all", x.party((1 << 26) - 1), 4);
        due("28: a fifth", x.party(1), -2);
        due("29: e", x.worth(1), 1);
        due("29: e and m", x.worth(3), 3);
        due("29: all", x.worth(15), 3);
        due("29: 16", x.worth(16), NONE);
        due("29: -1", x.worth(-1), NONE);
        due("30: 4 is too little", x.core(4, 0), NONE);
        due("30: 6 is too little", x.core(6, 3), NONE);
        int[] seven = {2, 1, 1, 3};
        int[] eight = {1, 2, 2, 3};
        for (int party = 0; party < 4; party++) {
            due("30: of 7", x.core(7, party), seven[party]);
            due("30: of 8", x.core(8, party), eight[party]);
        }
        due("30: 30: the last", x.core(30, 3), 25);
        due("30: -1", x.core(-1, 0), NONE);
        due("30: 31", x.core(31, 0), NONE);
        due("30: party 4", x.core(6, 4), NONE);
        due("30: party -1", x.core(6, -1), NONE);
        due("28: none any more", x.party(NONE), 0);
        LettersOnStrike y = fresh();
        y.party(1);
        due("30: nothing is enough for nothing", y.core(0, 0), 0);
        due("28: how many", x.about(8), 0);
        due("28: one", x.party(1), 1);
        due("30: one has all", x.core(30, 0), 30);
        due("30: too little", x.core(1, 0), NONE);
    }

    private static void games() {
        LettersOnStrike x = pantry();
        due("31: e and z", x.game(1, Due.set("ez"), false), 1);
        due("31: e, then z, and nobody is left", x.game(1, Due.set("ez"), true), 4);
        due("31: z alone: the other one wins", x.game(1, Due.set("z"), false), 0);
        due("31: z alone", x.game(1, Due.set("z"), true), NONE);
        due("31: e and m: who calls second loses", x.game(1, Due.set("em"), false), 1);
        due("31: by e", x.game(1, Due.set("em"), true), 4);
        due("31: can't be said", x.game(2, 1, false), -2);
        due("31: none such", x.game(3, 1, false), -2);
        due("31: -1", x.game(-1, 1, true), -2);
        due("31: empty", x.game(1, 0, false), -2);
        due("31: eleven", x.game(1, (1 << 11) - 1, false), -2);
        due("31: above", x.game(1, 1 << 26, false), -2);
        due("31: ten", x.game(1, 1023 << 16, false), 1);
        due("31: b, then eight more are no matter, then f is left", x.game(0, 1023 << 1, true), 1);
        x.strike(Due.set("ea"));
        due("31: as it is is no matter", x.game(1, Due.set("ez"), false), 1);
    }

    private static void signsFor() {
        LettersOnStrike x = pantry();
        due("32: t and s are mistaken by one", x.signsFor(Due.set("ts"), NONE), 2);
        due("32: s", x.signsFor(Due.set("ts"), 18), 0);
        due("32: t", x.signsFor(Due.set("ts"), 19), 1);
        due("32: t and r", x.signsFor(Due.set("tr"), NONE), 1);
        due("32: rst", x.signsFor(Due.set("rst"), NONE), 2);
        due("32: r", x.signsFor(Due.set("rst"), 17), 0);
        due("32: s", x.signsFor(Due.set("rst"), 18), 0);
        due("32: t", x.signsFor(Due.set("rst"), 19), 1);
        due("32: not of the set", x.signsFor(Due.set("ts"), 0), NONE);
        due("32: letter -2", x.signsFor(Due.set("ts"), -2), NONE);
        due("32: letter 26", x.signsFor(Due.set("ts"), 26), NONE);
        due("32: empty", x.signsFor(0, NONE), NONE);
        due("32: seven", x.signsFor(127, NONE), NONE);
        due("32: six", x.signsFor(63, NONE), 1);
        due("32: above", x.signsFor(1 << 26, NONE), NONE);
        LettersOnStrike y = fresh();
        for (int i = 0; i < 6; i++) {
            Due.word(y, "" + (char) ('a' + i), 1);
        }
        due("32: six unlike", y.signsFor(63, NONE), 6);
        due("32: f", y.signsFor(63, 5), 5);
    }

    private static void settlements() {
        LettersOnStrike x = pantry();
        due("33: e, t", x.settlement(Due.set("et"), NONE), 3);
        due("33: tea", x.settlement(Due.set("et"), 0), 0);
        due("33: no second", x.settlement(Due.set("et"), 1), NONE);
        due("33: e: the lowest", x.settlement(Due.set("e"), 0), 0);
        due("33: t, s, m", x.settlement(Due.set("tsm"), NONE), 9);
        due("33: first", x.settlement(Due.set("tsm"), 0), 0);
        due("33: second", x.settlement(Due.set("tsm"), 1), 1);
        due("33: third", x.settlement(Due.set("tsm"), 2), 2);
        due("33: fourth", x.settlement(Due.set("tsm"), 3), NONE);
        due("33: z", x.settlement(Due.set("z"), NONE), NONE);
        due("33: z's word", x.settlement(Due.set("z"), 0), NONE);
        due("33: four words", x.settlement(Due.set("tsmf"), NONE), 13);
        due("33: the fourth", x.settlement(Due.set("tsmf"), 3), 3);
        due("33: five words", x.settlement(Due.set("tsmfd"), NONE), NONE);
        due("33: empty", x.settlement(0, NONE), NONE);
        due("33: above", x.settlement(1 << 26, NONE), NONE);
        due("33: -2", x.settlement(1, -2), NONE);
        due("33: 4", x.settlement(1, 4), NONE);
        LettersOnStrike y = fresh();
        Due.word(y, "ab", 1);
        Due.word(y, "cd", 1);
        Due.word(y, "abcdx", 1);
        Due.word(y, "abcd", 1);
        due("33: four letters", y.settlement(15, NONE), 4);
        due("33: one word ahead of two", y.settlement(15, 0), 3);
        due("33: one only", y.settlement(15, 1), NONE);
    }

    private static void learning() {
        LettersOnStrike x = pantry();
        due("34: 0", x.learn(0, false), NONE);
        due("34: 5", x.learn(5, true), NONE);
        due("34: 4 letters", x.learn(4, false), Due.set("aest"));
        due("34: two words", x.learn(4, true), 2);
        due("34: 3 letters", x.learn(3, false), Due.set("aes"));
        due("34: one word", x.learn(3, true), 1);
        due("34: 1 letter: none, the lowest", x.learn(1, false), 1);
        due("34: no word", x.learn(1, true), 0);
        LettersOnStrike y = fresh();
        due("34: nothing to learn", y.learn(4, false), 0);
        due("34: no words", y.learn(4, true), 0);
        Due.word(y, "ox", 1);
        due("34: fewer than four", y.learn(4, false), Due.set("ox"));
        due("34: one word", y.learn(4, true), 1);
        due("34: o", y.learn(1, false), Due.set("o"));
    }

    private static void hairs() {
        LettersOnStrike x = pantry();
        Due.word(x, "ten", 3);
        Due.word(x, "pea", 3);
        Due.word(x, "sean", 3);
        due("35: of tea", x.hair(0, NONE), 3);
        due("35: sea", x.hair(0, 0), 1);
        due("35: ten", x.hair(0, 1), 5);
        due("35: pea", x.hair(0, 2), 6);
        due("35: no fourth", x.hair(0, 3), NONE);
        due("35: of rum", x.hair(2, NONE), 0);
        due("35: -2", x.hair(0, -2), NONE);
        due("35: none such", x.hair(8, NONE), NONE);
        due("35: -1", x.hair(-1, NONE), NONE);
    }

    private static void prints() {
        LettersOnStrike x = pantry();
        due("37: nothing printed", x.spells(0, NONE), 497);
        due("37: none at all", x.spells(0, 0), NONE);
        due("37: day 0", x.spells(0, 1), 0);
        due("37: the last", x.spells(0, 496), 31 * 30 + 30);
        due("37: behind it", x.spells(0, 497), -2);
        due("37: -2", x.spells(0, -2), -2);
        due("37: letter -1", x.spells(-1, NONE), -2);
        due("37: letter 26", x.spells(26, NONE), -2);
        due("36: none such", x.printed(5, 0, true), -2);
        due("36: -2", x.printed(-2, 0, true), -2);
        due("36: day -1", x.printed(0, -1, true), -2);
        due("36: day 31", x.printed(0, 31, true), -2);
        due("36: tea", x.printed(0, 10, true), 1);
        due("36: not sea", x.printed(1, 10, false), 2);
        // s was out on day 10: from 0 .. 10 to 10 .. 30.
        due("37: s", x.spells(18, NONE), 11 * 21);
        due("37: s first", x.spells(18, 0), 10);
        due("37: s last", x.spells(18, 230), 31 * 10 + 30);
        due("37: t was in: 0 .. 9, 11 .. 30 or none", x.spells(19, NONE), 1 + 55 + 210);
        due("37: t: up to day 9 from day 9", x.spells(19, 55), 31 * 9 + 9);
        due("37: t: from day 11", x.spells(19, 56), 31 * 11 + 11);
        due("37: r", x.spells(17, NONE), 497);
        due("36: sea, though", x.printed(1, 10, true), 3);
        due("37: nothing goes", x.spells(17, NONE), 0);
        due("37: not one", x.spells(17, 0), -2);
        due("36: none any more", x.printed(NONE, -5, false), 0);
        for (int i = 1; i <= 12; i++) {
            due("36: print " + i, x.printed(0, 30, true), i);
        }
        due("36: a 13th", x.printed(0, 30, true), -2);
        due("36: how many", x.about(9), 12);
    }

    private static void images() {
        LettersOnStrike x = pantry();
        Due.text(x, "price 7;");
        x.by(0);
        x.morning(3);
        x.contract(0);
        x.party(1);
        x.printed(0, 0, true);
        x.tie(0, 1);
        due("39: day", x.image(), 3);
        Due.text(x, "price 8;");
        x.by(1);
        Due.word(x, "z", 1);
        x.saying(11);
        x.tie(0, 2);
        x.year(5, 30);
        x.contract(3);
        x.party(2);
        x.printed(0, 1, false);
        for (int i = 0; i < 30; i++) {
            x.raise(1, i + 40);
        }
        Due.tape(x, "price 9; ");
        due("40: day", x.back(), 3);
        int[] about = {5, 3, 3, 17, 1, 0, 4, 0, 1, 1, 9, 0};
        for (int what = 0; what < about.length; what++) {
            due("40: about(" + what + ")", x.about(what), about[what]);
        }
        due("40: ties", x.of(0, 4), 2);
        due("40: wage", x.of(1, 0), 1);
        due("40: contracts", x.signed(NONE, 0), 1);
        due("40: its saying", x.signed(0, 0), 0);
        due("40: a word", x.ofWord(5, 0), NONE);
        due("40: price", x.dear(0), 14);
        due("40: the tape is read on", x.text(), 1);
        x.by(1);
        due("40: by the new text", x.dear(0), 18);
        due("40: undo", x.undo(), 3);
        due("40: no contract", x.signed(NONE, 0), 0);
        due("40: another", x.contract(1), 0);
        due("40: again", x.back(), 3);
        due("40: the contract of the image", x.signed(0, 0), 0);
        due("40: price by the image's text", x.dear(0), 14);
        Due.text(x, "walk");
        x.back();
        due("40: the latest fault stays", x.fault(0), 1);
    }

    private static void abouts() {
        LettersOnStrike x = pantry();
        due("41: -1", x.about(-1), -2);
        due("41: 12", x.about(12), -2);
        due("41: words", x.about(0), 5);
        due("41: sayings", x.about(1), 3);
        x.strike(5);
        due("41: out", x.about(7), 5);
        due("41: outs", x.about(11), 2);
        due("41: NONE", LettersOnStrike.NONE, -1);
    }

    public static void main(String[] args) {
        newObject();
        ties();
        words();
        sayings();
        tape();
        texts();
        mornings();
        morningsAllAtOnce();
        calls();
        wagesAndSigns();
        contracts();
        bindsByText();
        played();
        playedStops();
        years();
        undoes();
        ofAll();
        mistakes();
        howSaid();
        prices();
        stops();
        powers();
        parties();
        games();
        signsFor();
        settlements();
        learning();
        hairs();
        prints();
        images();
        abouts();
        Due.end("PromisesTest");
    }
}
