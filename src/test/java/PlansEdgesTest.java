/** Term III and promises 25 to 35: each sentence about plans and puzzles that names an edge. */
public final class PlansEdgesTest {
    private static final int NONE = Edges.NONE;
    private static final int[] NO_SETS = {0, -2, 1 << 26, 1 << 26 | 1, 1 << 30, Edges.LEAST, Edges.MOST};
    private static final int[] NO_LETTERS = {-2, 26, 31, 32, Edges.LEAST, Edges.MOST};
    private static final int[] NO_SAYINGS = {-1, 3, 7, 8, Edges.LEAST, Edges.MOST};

    private static void says(String words) {
        Edges.says(words);
    }

    private static void is(String call, long got, long want) {
        Edges.is(call, got, want);
    }

    private static int set(String letters) {
        return Due.set(letters);
    }

    /** Words of one sense each: "ab 1 cd 2" tells ab of sense 1 and cd of sense 2. */
    private static LettersOnStrike told(String words) {
        LettersOnStrike x = Edges.fresh();
        String[] parts = words.split(" ");
        for (int i = 0; i + 1 < parts.length; i += 2) {
            Due.word(x, parts[i], Integer.parseInt(parts[i + 1]));
        }
        return x;
    }

    // ---- stop and spared: promises 25 and 26

    private static void fewestToStop() {
        says("III: STOP: the fewest LETTERS without which a SAYING can't be SAID");
        LettersOnStrike x = told("ab 1 bc 1 ad 2 zd 2 e 3");
        x.saying(11);
        x.saying(12);
        x.saying(112);
        x.saying(13);
        x.saying(14);
        is("b stands in both", x.stop(0), set("b"));
        is("d stands in both", x.stop(1), set("d"));
        is("either one is enough: b is the lowest", x.stop(2), set("b"));
        is("e", x.stop(3), set("e"));
        is("none are needed: an empty set", x.stop(4), 0);
        x.strike(set("bd"));
        x.sign(4, 1);
        is("it is no matter who is out", x.stop(0), set("b"));
        is("signs aside", x.stop(3), set("e"));
    }

    private static void lowestAndHighestSense() {
        says("III: WITHOUT: it can't be, if one of its SENSES can't (0 .. 9)");
        LettersOnStrike x = told("ab 0 cd 9");
        x.saying(10);
        x.saying(19);
        x.saying(190);
        is("stop 0", x.stop(0), set("a"));
        is("stop 9", x.stop(1), set("c"));
        is("stop 9 and 0", x.stop(2), set("a"));
        is("spared worst", x.spared(false), 0);
        is("of 0, and of 9 and 0", x.spared(true), 2);
        x.party(set("a"));
        x.party(set("d"));
        is("worth of a", x.worth(1), 2);
        is("worth of d", x.worth(2), 2);
        is("worth of both", x.worth(3), 3);
        is("power over 0", x.power(0, set("abd"), 0, true), 2);
        is("power over 9", x.power(1, set("abd"), 3, true), 1);
        is("game over 0: a is left to the first one", x.game(0, set("a"), false), 0);
        is("game over 0", x.game(0, set("az"), true), 25);
        is("game over 9", x.game(1, set("az"), true), 0);
        LettersOnStrike y = told("cd 9");
        y.saying(10);
        is("no word of 0: none are needed", y.stop(0), 0);
        is("no word of 0: no game", y.game(0, 1, false), -2);
        is("no word of 0: counted", y.spared(true), 1);
    }

    private static void lowestToStop() {
        says("III: STOP: of like ones the lowest first, then second, .. (as they stand in the alphabet)");
        LettersOnStrike x = told("ab 1 ac 1 zb 1 zc 1 fh 2 gh 2 fi 2 gi 2 jk 3");
        x.saying(11);
        x.saying(12);
        x.saying(13);
        is("a, z ahead of b, c, though z is the last", x.stop(0), set("az"));
        is("f, g ahead of h, i", x.stop(1), set("fg"));
        is("j ahead of k", x.stop(2), set("j"));
        LettersOnStrike y = told("ay 1 by 1 cz 1");
        y.saying(11);
        is("c, y ahead of y, z", y.stop(0), set("cy"));
    }

    private static void moreThanFourToStop() {
        says("III: STOP: none, if more than 4 are needed");
        LettersOnStrike x = told("w 1 x 1 y 1 z 1 a 2 b 2 c 2 d 2 e 2");
        x.saying(11);
        x.saying(12);
        x.saying(121);
        is("4", x.stop(0), set("wxyz"));
        is("5", x.stop(1), NONE);
        is("4 for one of both", x.stop(2), set("wxyz"));
    }

    private static void stopOthers() {
        says("25: NONE: none, and for others");
        LettersOnStrike x = Edges.busy();
        for (int saying : NO_SAYINGS) {
            is("stop(" + saying + ")", x.stop(saying), NONE);
        }
        is("none told", Edges.fresh().stop(0), NONE);
    }

    private static void sparedWorst() {
        says("III: SPARED worst: the LETTER without which (alone) the most SAYINGS can't be; of like ones the lowest");
        LettersOnStrike x = told("zy 1 yx 2 w 3 w 3 v 3");
        is("nothing told: a", x.spared(false), 0);
        is("nothing told: no saying", x.spared(true), 0);
        x.saying(13);
        is("nobody is needed: a", x.spared(false), 0);
        is("nobody is needed: no saying", x.spared(true), 0);
        x.saying(11);
        is("y ahead of z", x.spared(false), 24);
        is("one", x.spared(true), 1);
        x.saying(12);
        is("y, of both", x.spared(false), 24);
        is("two", x.spared(true), 2);
        x.saying(11);
        is("three", x.spared(true), 3);
        x.strike(set("y"));
        is("who is out is no matter", x.spared(true), 3);
        LettersOnStrike y = told("z 1");
        y.saying(11);
        is("z", y.spared(false), 25);
        y.saying(12);
        is("one that can't be said at all: z yet", y.spared(false), 25);
        is("and is counted", y.spared(true), 2);
        LettersOnStrike z = told("z 1");
        z.saying(12);
        is("that one alone: a", z.spared(false), 0);
        is("one", z.spared(true), 1);
    }

    // ---- power: promise 27

    private static void groupOfOneToTen() {
        says("III: POWER of a LETTER in a GROUP (a set of 1 to 10, it too)");
        LettersOnStrike x = told("k 1");
        x.saying(11);
        is("1: upper", x.power(0, set("k"), 10, false), 1);
        is("1: lower", x.power(0, set("k"), 10, true), 1);
        is("10: upper", x.power(0, set("bcdefghijk"), 10, false), 1);
        is("10: lower", x.power(0, set("bcdefghijk"), 10, true), 1);
        is("10: another one's", x.power(0, set("bcdefghijk"), 1, false), 0);
        is("11: upper", x.power(0, set("abcdefghijk"), 10, false), NONE);
        is("11: lower", x.power(0, set("abcdefghijk"), 10, true), NONE);
        is("26", x.power(0, Edges.ALL, 10, false), NONE);
        is("none", x.power(0, 0, 10, false), NONE);
        is("without it: upper", x.power(0, set("j"), 10, false), NONE);
        is("without it: lower", x.power(0, set("abcdefghij"), 10, true), NONE);
    }

    private static void powerInLowestTerms() {
        says("III: of all orders in which the GROUP walks out one by one, in how many .. first behind it; in lowest terms");
        LettersOnStrike x = told("a 1 b 1 c 1 d 1 e 1 f 1 g 1 h 1 i 1 j 1");
        x.saying(11);
        for (int letter = 0; letter < 10; letter++) {
            is("the last of ten: upper " + letter, x.power(0, set("abcdefghij"), letter, false), 1);
            is("the last of ten: lower " + letter, x.power(0, set("abcdefghij"), letter, true), 10);
        }
        LettersOnStrike y = told("ab 1 c 1");
        y.saying(11);
        is("c behind a or b: upper", y.power(0, set("abc"), 2, false), 2);
        is("c behind a or b: lower", y.power(0, set("abc"), 2, true), 3);
        is("a behind c, ahead of b: upper", y.power(0, set("abc"), 0, false), 1);
        is("a behind c, ahead of b: lower", y.power(0, set("abc"), 0, true), 6);
        LettersOnStrike z = told("abcdefgh 1 i 1 j 1");
        z.saying(11);
        is("i behind j and one of eight: upper", z.power(0, set("abcdefghij"), 8, false), 22);
        is("i behind j and one of eight: lower", z.power(0, set("abcdefghij"), 8, true), 45);
        is("a behind i and j, ahead of the other seven: upper", z.power(0, set("abcdefghij"), 0, false), 1);
        is("a behind i and j, ahead of the other seven: lower", z.power(0, set("abcdefghij"), 0, true), 360);
    }

    private static void noPower() {
        says("III: 0 by 1, if it can be SAID without the whole GROUP");
        LettersOnStrike x = told("ab 1 c 1");
        x.saying(11);
        x.saying(12);
        is("without a, b: upper", x.power(0, set("ab"), 0, false), 0);
        is("without a, b: lower", x.power(0, set("ab"), 0, true), 1);
        is("one that stands in no word: upper", x.power(0, set("acz"), 25, false), 0);
        is("one that stands in no word: lower", x.power(0, set("acz"), 25, true), 1);
        is("it can't be said from the first on: upper", x.power(1, set("abc"), 0, false), 0);
        is("it can't be said from the first on: lower", x.power(1, set("abc"), 0, true), 1);
    }

    private static void powerOthers() {
        says("27: NONE for others");
        LettersOnStrike x = Edges.busy();
        for (int saying : NO_SAYINGS) {
            is("saying " + saying, x.power(saying, 1, 0, false), NONE);
        }
        for (int group : NO_SETS) {
            is("group " + group, x.power(0, group, 0, false), NONE);
        }
        is("group -1", x.power(0, -1, 0, true), NONE);
        for (int letter : NO_LETTERS) {
            is("letter " + letter, x.power(0, 1, letter, true), NONE);
        }
        is("letter -1", x.power(0, 1, -1, true), NONE);
    }

    // ---- shares: promises 28 to 30

    private static void fourParties() {
        says("28: A PARTY: how many there are; -2 if there are 4 (III: up to 4)");
        LettersOnStrike x = Edges.pantry();
        is("the first", x.party(1), 1);
        is("the second: all letters", x.party(Edges.ALL), 2);
        is("the third: the same", x.party(1), 3);
        is("the fourth", x.party(1 << 25), 4);
        is("a fifth", x.party(2), -2);
        is("a fifth, an empty set", x.party(0), -2);
        is("how many", x.about(8), 4);
        is("no step", x.about(6), 0);
    }

    private static void noPartyAnyMore() {
        says("28: letters; NONE: none any more");
        LettersOnStrike x = Edges.busy();
        is("none", x.party(NONE), 0);
        is("how many", x.about(8), 0);
        is("none again", x.party(NONE), 0);
        is("worth of the first", x.worth(1), NONE);
        is("core of the first", x.core(9, 0), NONE);
        is("a new one", x.party(set("z")), 1);
        is("its worth", x.worth(1), 1);
        for (int i = 0; i < 3; i++) {
            x.party(1);
        }
        is("none of 4", x.party(NONE), 0);
        is("and one", x.party(1), 1);
    }

    private static void partyOthers() {
        says("28: -2 for others (an empty set)");
        LettersOnStrike x = Edges.busy();
        String before = Edges.look(x);
        for (int letters : NO_SETS) {
            is("party(" + letters + ")", x.party(letters), -2);
        }
        Edges.unchanged(x, before);
    }

    private static void worthOthers() {
        says("29: NONE for others");
        LettersOnStrike x = Edges.busy();
        int[] wrong = {4, 5, 8, 16, -1, -2, Edges.LEAST, Edges.MOST};
        for (int parties : wrong) {
            is("worth(" + parties + ") of two", x.worth(parties), NONE);
        }
        is("worth(3) of two", x.worth(3), 3);
        is("worth(1) of none", Edges.fresh().worth(1), NONE);
        is("worth(0) of none", Edges.fresh().worth(0), 0);
        x.party(1);
        is("worth(7) of three", x.worth(7), 3);
        is("worth(8) of three", x.worth(8), NONE);
        x.party(1);
        is("worth(15) of four", x.worth(15), 3);
        is("worth(16) of four", x.worth(16), NONE);
    }

    private static void worthTogether() {
        says("III: WORTH of some PARTIES together: how many SAYINGS can't be SAID without the LETTERS of all of these");
        LettersOnStrike x = told("ab 1 c 1 d 2");
        x.party(set("a"));
        x.party(set("c"));
        x.party(set("de"));
        x.party(set("z"));
        is("no sayings", x.worth(15), 0);
        x.saying(11);
        x.saying(12);
        x.saying(112);
        int[] due = {0, 0, 0, 2, 2, 2, 2, 3, 0, 0, 0, 2, 2, 2, 2, 3};
        for (int parties = 0; parties < 16; parties++) {
            is("worth(" + parties + ")", x.worth(parties), due[parties]);
        }
        x.saying(13);
        is("one that can't be said at all is counted", x.worth(0), 1);
        x.strike(set("ac"));
        is("who is out is no matter", x.worth(0), 1);
    }

    private static void purses() {
        says("III: CORE of a purse p (0 .. 30)");
        LettersOnStrike x = told("a 1");
        x.party(set("z"));
        is("0", x.core(0, 0), 0);
        is("1", x.core(1, 0), 1);
        is("30", x.core(30, 0), 30);
        is("31", x.core(31, 0), NONE);
        is("-1", x.core(-1, 0), NONE);
        is("least", x.core(Edges.LEAST, 0), NONE);
        is("most", x.core(Edges.MOST, 0), NONE);
    }

    private static void coreOthers() {
        says("30: NONE: none, and for others");
        LettersOnStrike x = Edges.busy();
        int[] wrong = {-1, 2, 3, 4, Edges.LEAST, Edges.MOST};
        for (int party : wrong) {
            is("core(20, " + party + ") of two", x.core(20, party), NONE);
        }
        is("of none", Edges.fresh().core(20, 0), NONE);
    }

    private static void shares() {
        says("III: numbers, 0 or more, p together, such that any PARTIES' numbers are no less than their WORTH together");
        LettersOnStrike x = told("ab 1 bc 1 ca 1");
        x.saying(11);
        x.party(set("a"));
        x.party(set("b"));
        x.party(set("c"));
        is("any two are worth 1, so 1 is too little", x.core(1, 0), NONE);
        is("0 is too little", x.core(0, 2), NONE);
        int[][] due = {{0, 1, 1}, {0, 1, 2}, {0, 1, 3}, {0, 1, 29}};
        int[] purse = {2, 3, 4, 30};
        for (int i = 0; i < purse.length; i++) {
            for (int party = 0; party < 3; party++) {
                is("core(" + purse[i] + ", " + party + ")", x.core(purse[i], party), due[i][party]);
            }
        }
    }

    private static void leastFirst() {
        says("III: the first of these (the least first one, then second, ..)");
        LettersOnStrike x = told("a 1 b 2 c 3");
        x.saying(11);
        x.saying(11);
        x.saying(12);
        x.saying(123);
        x.party(set("a"));
        x.party(set("bc"));
        is("first of 4", x.core(4, 0), 2);
        is("second of 4", x.core(4, 1), 2);
        is("first of 7", x.core(7, 0), 2);
        is("second of 7", x.core(7, 1), 5);
        is("3 is too little", x.core(3, 1), NONE);
        x.party(set("z"));
        x.party(set("y"));
        is("second of 7 of four", x.core(7, 1), 2);
        is("third", x.core(7, 2), 0);
        is("fourth has what is left", x.core(7, 3), 3);
    }

    private static void allForOne() {
        says("III: numbers, one for each PARTY, 0 or more, p together");
        LettersOnStrike x = told("a 1 b 2");
        x.saying(11);
        x.saying(11);
        x.party(set("a"));
        x.party(set("z"));
        is("the first has all", x.core(2, 0), 2);
        is("the second has none", x.core(2, 1), 0);
        is("1 is too little", x.core(1, 0), NONE);
        x.party(set("y"));
        is("the third has none", x.core(2, 2), 0);
        is("of 3: the first", x.core(3, 0), 2);
        is("of 3: the second", x.core(3, 1), 0);
        is("of 3: the third", x.core(3, 2), 1);
        LettersOnStrike y = told("a 1 b 2");
        y.saying(11);
        y.saying(11);
        y.party(set("a"));
        is("one party: 1 is too little", y.core(1, 0), NONE);
        is("one party: 2", y.core(2, 0), 2);
        y.party(NONE);
        y.party(set("z"));
        y.party(set("a"));
        is("the first has none", y.core(2, 0), 0);
        is("the second has all", y.core(2, 1), 2);
        is("1 is too little for the second", y.core(1, 1), NONE);
        y.saying(13);
        is("one that can't be said at all asks for 1 by each party", y.core(3, 0), NONE);
        is("any party is some of them, nobody is none: the first", y.core(4, 0), 1);
        is("the second", y.core(4, 1), 3);
    }

    // ---- game: promise 31

    private static void gameOfOneToTen() {
        says("III: A GAME over a SAYING and a set of 1 to 10 LETTERS");
        LettersOnStrike x = told("k 1");
        x.saying(11);
        is("1: he has to call z, and then the other one wins", x.game(0, set("z"), false), 0);
        is("1: none to call", x.game(0, set("z"), true), NONE);
        is("1: he has to call k", x.game(0, set("k"), false), 0);
        is("2", x.game(0, set("yz"), false), 1);
        is("2: the lowest", x.game(0, set("yz"), true), 24);
        is("10", x.game(0, set("abcdefghij"), false), 1);
        is("10: the lowest", x.game(0, set("abcdefghij"), true), 0);
        is("9", x.game(0, set("abcdefghi"), false), 0);
        is("9: none", x.game(0, set("abcdefghi"), true), NONE);
        is("11", x.game(0, set("abcdefghijz"), false), -2);
        is("11: the letter", x.game(0, set("abcdefghijz"), true), -2);
        is("26", x.game(0, Edges.ALL, false), -2);
        is("none", x.game(0, 0, false), -2);
        is("none: the letter", x.game(0, 0, true), -2);
    }

    private static void losesBehindTheCall() {
        says("III: behind whose call the SAYING can't be SAID any more, loses");
        LettersOnStrike x = told("k 1 a 2 b 2");
        x.saying(11);
        x.saying(12);
        is("k and z: z, then k is left", x.game(0, set("kz"), false), 1);
        is("k and z: z", x.game(0, set("kz"), true), 25);
        is("k, y, z: two are no matter", x.game(0, set("kyz"), false), 0);
        is("x, y, z", x.game(0, set("xyz"), false), 0);
        is("w, x, y, z", x.game(0, set("wxyz"), false), 1);
        is("k and z again", x.game(0, set("kz"), false), 1);
        is("a, b: a, then b is left", x.game(1, set("ab"), false), 1);
        is("a, b: the lowest", x.game(1, set("ab"), true), 0);
        is("a, b, z", x.game(1, set("abz"), false), 0);
        is("a, b, z: none", x.game(1, set("abz"), true), NONE);
    }

    private static void withoutAnyLeft() {
        says("III: without any left to call nobody loses (the one who'd have to call wins)");
        LettersOnStrike x = told("k 1");
        x.saying(11);
        is("two: he who called first", x.game(0, set("ab"), false), 1);
        is("three: the other one", x.game(0, set("abc"), false), 0);
        is("four: he who called first", x.game(0, set("abcd"), false), 1);
    }

    private static void gameOthers() {
        says("31: -2 for others (one that can't be SAID from the first on)");
        LettersOnStrike x = Edges.busy();
        is("no word of it", x.game(2, 1, false), -2);
        is("no word of it: the letter", x.game(2, 1, true), -2);
        for (int saying : NO_SAYINGS) {
            is("saying " + saying, x.game(saying, 1, false), -2);
            is("saying " + saying + ": the letter", x.game(saying, 1, true), -2);
        }
        for (int letters : NO_SETS) {
            is("set " + letters, x.game(0, letters, false), -2);
            is("set " + letters + ": the letter", x.game(0, letters, true), -2);
        }
        is("set -1", x.game(0, -1, false), -2);
        x.strike(set("ta"));
        x.sign(19, NONE);
        is("from nobody OUT: though it can't be said now", x.said(0, NONE, NONE), NONE);
        is("the game can be", x.game(0, set("yz"), false), 1);
    }

    // ---- signs: promise 32

    private static void signsForOneToSix() {
        says("III: SIGNS FOR 1 to 6 LETTERS");
        LettersOnStrike x = told("a 1 b 1 c 1 d 1 e 1 f 1 g 1");
        is("1", x.signsFor(set("g"), NONE), 1);
        is("its sign", x.signsFor(set("g"), 6), 0);
        is("6", x.signsFor(set("abcdef"), NONE), 6);
        for (int letter = 0; letter < 6; letter++) {
            is("sign of " + letter, x.signsFor(set("abcdef"), letter), letter);
        }
        is("7", x.signsFor(set("abcdefg"), NONE), NONE);
        is("7: of a", x.signsFor(set("abcdefg"), 0), NONE);
        is("26", x.signsFor(Edges.ALL, NONE), NONE);
        is("none", x.signsFor(0, NONE), NONE);
        is("without words", Edges.fresh().signsFor(set("uvwxyz"), NONE), 1);
        is("without words: z", Edges.fresh().signsFor(set("uvwxyz"), 25), 0);
    }

    private static void fewestUnlikeSigns() {
        says("III: the fewest unlike SIGNS by which no two WORDS are MISTAKEN");
        LettersOnStrike x = told("ax 1 cx 1 cy 1 dy 1 dz 1 bz 1");
        is("a, c, d, b in a row: two", x.signsFor(set("abcd"), NONE), 2);
        is("of like ones: a has 0", x.signsFor(set("abcd"), 0), 0);
        is("b can't have 0 with two signs", x.signsFor(set("abcd"), 1), 1);
        is("c", x.signsFor(set("abcd"), 2), 1);
        is("d", x.signsFor(set("abcd"), 3), 0);
        LettersOnStrike y = told("ab 1 ba 1");
        is("ab and ba", y.signsFor(set("ab"), NONE), 2);
        is("a alone", y.signsFor(set("a"), NONE), 1);
        LettersOnStrike z = told("ab 1 cd 1 abb 1");
        is("unlike as soon as one place is", z.signsFor(set("abcd"), NONE), 2);
        is("a", z.signsFor(set("abcd"), 0), 0);
        is("b", z.signsFor(set("abcd"), 1), 0);
        is("c", z.signsFor(set("abcd"), 2), 0);
        is("d", z.signsFor(set("abcd"), 3), 1);
    }

    private static void asIfJustTheseWereOut() {
        says("III: SIGNS FOR (as if just these were OUT)");
        LettersOnStrike x = told("at 1 as 1 bt 2");
        x.strike(set("st"));
        x.sign(18, 3);
        x.sign(19, 3);
        is("s and t, out with one sign, are no matter", x.signsFor(set("ab"), NONE), 2);
        is("b", x.signsFor(set("ab"), 1), 1);
        is("a with its own sign", x.signsFor(set("a"), 0), 0);
        is("of s", x.signsFor(set("st"), 18), 0);
        is("of t", x.signsFor(set("st"), 19), 1);
        LettersOnStrike y = Edges.fresh();
        for (int i = 0; i < 24; i++) {
            Due.word(y, "" + (char) ('c' + i), 0);
        }
        is("a letter that is in is no sign", y.signsFor(set("abcde"), NONE), 3);
        is("a", y.signsFor(set("abcde"), 0), 0);
        is("b", y.signsFor(set("abcde"), 1), 0);
        is("e", y.signsFor(set("abcde"), 4), 2);
    }

    private static void signsForOthers() {
        says("32: NONE: none, and for others");
        LettersOnStrike x = Edges.busy();
        for (int letters : NO_SETS) {
            is("set " + letters, x.signsFor(letters, NONE), NONE);
            is("set " + letters + ", a", x.signsFor(letters, 0), NONE);
        }
        is("set -1", x.signsFor(-1, NONE), NONE);
        for (int letter : NO_LETTERS) {
            is("letter " + letter, x.signsFor(set("abz"), letter), NONE);
        }
        is("a letter that isn't of the set", x.signsFor(set("abz"), 2), NONE);
        is("one that is", x.signsFor(set("abz"), 25), 0);
    }

    // ---- settlement: promise 33

    private static void upToFourWords() {
        says("III: SETTLEMENT: up to 4 unlike WORDS in which all of a set of LETTERS stand; none");
        LettersOnStrike x = told("a 1 b 1 c 1 d 1 e 1");
        is("one", x.settlement(set("e"), NONE), 1);
        is("the word", x.settlement(set("e"), 0), 4);
        is("four", x.settlement(set("bcde"), NONE), 4);
        for (int i = 0; i < 4; i++) {
            is("word " + i, x.settlement(set("bcde"), i), i + 1);
        }
        is("five", x.settlement(set("abcde"), NONE), NONE);
        is("five: the first", x.settlement(set("abcde"), 0), NONE);
        is("a letter of none", x.settlement(set("az"), NONE), NONE);
        is("a letter of none: the first", x.settlement(set("az"), 0), NONE);
        is("no words", Edges.fresh().settlement(1, NONE), NONE);
        x.strike(set("a"));
        is("who is out is no matter", x.settlement(set("a"), 0), 0);
    }

    private static void fewestThenFewestThenLowest() {
        says("III: the fewest LETTERS together, then fewest WORDS, then the lowest first one, second, ..");
        LettersOnStrike x = told("abcdefgh 1 ab 1 cd 1 abcd 1 ac 1 bd 1 dcba 1");
        is("four letters, not eight", x.settlement(set("abcd"), NONE), 4);
        is("one word, not two; the lowest of the two", x.settlement(set("abcd"), 0), 3);
        is("no second", x.settlement(set("abcd"), 1), NONE);
        is("eight at once", x.settlement(set("ah"), 0), 0);
        LettersOnStrike y = told("ab 1 ac 1 bd 1 cd 1");
        is("two words", y.settlement(set("abcd"), NONE), 4);
        is("0 and 3 ahead of 1 and 2", y.settlement(set("abcd"), 0), 0);
        is("the second", y.settlement(set("abcd"), 1), 3);
        is("no third", y.settlement(set("abcd"), 2), NONE);
        LettersOnStrike z = told("xa 1 aa 1 bx 1 ab 1 ba 1");
        is("the second decides: 0 and 2 ahead of 0 and 3", z.settlement(set("xab"), 1), 2);
        is("more words, but fewer letters", told("abc 1 a 1 b 1").settlement(set("ab"), NONE), 2);
        is("the first of these", told("abc 1 a 1 b 1").settlement(set("ab"), 0), 1);
    }

    private static void settlementOthers() {
        says("33: NONE: none, there is none such, and for others");
        LettersOnStrike x = Edges.busy();
        for (int letters : NO_SETS) {
            is("set " + letters, x.settlement(letters, NONE), NONE);
            is("set " + letters + ": the first", x.settlement(letters, 0), NONE);
        }
        is("set -1", x.settlement(-1, NONE), NONE);
        int[] places = {1, 2, 3, 4, 5, -2, Edges.LEAST, Edges.MOST};
        for (int i : places) {
            is("word " + i, x.settlement(set("e"), i), NONE);
        }
    }

    // ---- first to learn: promise 34

    private static void oneToFourToLearn() {
        says("III: FIRST to learn k (1 to 4)");
        LettersOnStrike x = told("z 1 zy 1 x 1 zyxw 1");
        is("1", x.learn(1, false), set("x"));
        is("1: words", x.learn(1, true), 1);
        is("2", x.learn(2, false), set("xz"));
        is("2: words", x.learn(2, true), 2);
        is("3", x.learn(3, false), set("xyz"));
        is("3: words", x.learn(3, true), 3);
        is("4", x.learn(4, false), set("wxyz"));
        is("4: words", x.learn(4, true), 4);
        says("34: NONE for others");
        int[] wrong = {0, 5, -1, 26, Edges.LEAST, Edges.MOST};
        for (int k : wrong) {
            is("learn(" + k + ")", x.learn(k, false), NONE);
            is("learn(" + k + "): words", x.learn(k, true), NONE);
        }
    }

    private static void lowestToLearn() {
        says("III: FIRST to learn: of like ones the lowest first one, then second, ..");
        LettersOnStrike x = told("bc 1 az 1");
        is("a, z ahead of b, c", x.learn(2, false), set("az"));
        is("a, b of three: two letters more than needed", x.learn(3, false), set("abc"));
        is("none can be written: the lowest", told("dcb 1").learn(1, false), set("b"));
        is("none can be written: the two lowest", told("dcb 1").learn(2, false), set("bc"));
        is("none can be written: no word", told("dcb 1").learn(2, true), 0);
    }

    private static void fewerToLearn() {
        says("III: (LETTERS that stand in no WORD aren't learnt; fewer than k, if there are fewer)");
        LettersOnStrike x = told("zz 1");
        for (int k = 1; k <= 4; k++) {
            is("learn " + k, x.learn(k, false), 1 << 25);
            is("learn " + k + ": words", x.learn(k, true), 1);
        }
        Due.word(x, "xy", 1);
        is("three of four", x.learn(4, false), set("xyz"));
        is("words", x.learn(4, true), 2);
        LettersOnStrike none = Edges.fresh();
        for (int k = 1; k <= 4; k++) {
            is("nothing to learn", none.learn(k, false), 0);
            is("no words", none.learn(k, true), 0);
        }
    }

    // ---- hair: promise 35

    private static void butForOneLetter() {
        says("III: HAIR: WORDS that look like a told one but for one LETTER at one place, as many LETTERS as it");
        LettersOnStrike x = told("tea 1 sea 1 ten 1 tee 1 teas 1 te 1 eat 1 taa 1 son 1 t 1 a 1 abcdefgh 1 abcdefgz 1");
        is("of tea", x.hair(0, NONE), 4);
        is("at the first place", x.hair(0, 0), 1);
        is("at the last place", x.hair(0, 1), 2);
        is("at the last place, a letter that it has", x.hair(0, 2), 3);
        is("at the second place", x.hair(0, 3), 7);
        is("no fifth", x.hair(0, 4), NONE);
        is("of te", x.hair(5, NONE), 0);
        is("of t: a", x.hair(9, 0), 10);
        is("of abcdefgh", x.hair(11, NONE), 1);
        is("of abcdefgh: the eighth place", x.hair(11, 0), 12);
        is("of abcdefgz", x.hair(12, 0), 11);
        is("of one that is told first", x.hair(1, 0), 0);
    }

    private static void hairOthers() {
        says("35: NONE if there is none such, and for others");
        LettersOnStrike x = Edges.busy();
        int[] words = {-1, 5, 24, Edges.LEAST, Edges.MOST};
        for (int word : words) {
            is("how many of " + word, x.hair(word, NONE), NONE);
            is("the first of " + word, x.hair(word, 0), NONE);
        }
        int[] places = {1, 2, -2, Edges.LEAST, Edges.MOST};
        for (int i : places) {
            is("the " + i + "-th of tea", x.hair(0, i), NONE);
        }
        is("the first of rum", x.hair(2, 0), NONE);
        is("how many of rum", x.hair(2, NONE), 0);
        is("how many of tea", x.hair(0, NONE), 1);
    }

    public static void main(String[] args) {
        fewestToStop();
        lowestAndHighestSense();
        lowestToStop();
        moreThanFourToStop();
        stopOthers();
        sparedWorst();
        groupOfOneToTen();
        powerInLowestTerms();
        noPower();
        powerOthers();
        fourParties();
        noPartyAnyMore();
        partyOthers();
        worthOthers();
        worthTogether();
        purses();
        coreOthers();
        shares();
        leastFirst();
        allForOne();
        gameOfOneToTen();
        losesBehindTheCall();
        withoutAnyLeft();
        gameOthers();
        signsForOneToSix();
        fewestUnlikeSigns();
        asIfJustTheseWereOut();
        signsForOthers();
        upToFourWords();
        fewestThenFewestThenLowest();
        settlementOthers();
        oneToFourToLearn();
        lowestToLearn();
        fewerToLearn();
        butForOneLetter();
        hairOthers();
        Due.end("PlansEdgesTest");
    }
}
