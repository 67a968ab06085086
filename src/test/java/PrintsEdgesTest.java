/** Terms IV and V, promises 36, 37 and 39 to 41: each sentence about prints, images and about that names an edge. */
public final class PrintsEdgesTest {
    private static final int NONE = Edges.NONE;
    /** All spells from a day of 0 .. 30 to a day, and none at all. */
    private static final int ANY = 31 * 32 / 2 + 1;

    private static void says(String words) {
        Edges.says(words);
    }

    private static void is(String call, long got, long want) {
        Edges.is(call, got, want);
    }

    private static int set(String letters) {
        return Due.set(letters);
    }

    /** a, b, ab, abc: all of sense 1. */
    private static LettersOnStrike told() {
        LettersOnStrike x = Edges.fresh();
        Due.word(x, "a", 1);
        Due.word(x, "b", 1);
        Due.word(x, "ab", 1);
        Due.word(x, "abc", 1);
        return x;
    }

    // ---- printed: promise 36

    private static void twelvePrinted() {
        says("36: PRINTED: how many there are; -2 if there are 12");
        LettersOnStrike x = told();
        for (int i = 1; i <= 12; i++) {
            is("the " + i + "-th", x.printed(0, i, true), i);
        }
        is("a 13th", x.printed(1, 30, false), -2);
        is("how many", x.about(9), 12);
        is("the 13th isn't there", x.spells(1, NONE), ANY);
        is("the 12th is", x.spells(0, 0), NONE);
        is("a out from day 13 at the earliest, or on day 0", x.spells(0, NONE), 1 + 1 + 18 * 19 / 2);
        is("no step", x.about(6), 0);
    }

    private static void nonePrintedAnyMore() {
        says("36: word NONE: none any more");
        LettersOnStrike x = told();
        x.printed(0, 5, false);
        x.printed(2, 5, true);
        is("nothing goes with both", x.spells(0, NONE), 0);
        is("none any more", x.printed(NONE, 0, true), 0);
        is("how many", x.about(9), 0);
        is("all goes", x.spells(0, NONE), ANY);
        is("none again", x.printed(NONE, 30, false), 0);
        for (int i = 1; i <= 12; i++) {
            x.printed(0, 0, false);
        }
        is("none of 12 any more", x.printed(NONE, 0, false), 0);
        is("and one", x.printed(0, 0, true), 1);
        int[] days = {0, 1, 15, 29, 30};
        for (int day : days) {
            x.printed(NONE, 0, true);
            x.printed(0, day, true);
            is("in on day " + day, x.spells(0, NONE), ANY - (day + 1) * (31 - day));
            x.printed(NONE, 0, true);
            x.printed(0, day, false);
            is("out on day " + day, x.spells(0, NONE), (day + 1) * (31 - day));
        }
    }

    private static void printedOthers() {
        says("36: -2 for others (IV: a DAY d, 0 .. 30)");
        LettersOnStrike x = Edges.busy();
        String before = Edges.look(x);
        int[] words = {-2, 5, 23, 24, Edges.LEAST, Edges.MOST};
        for (int word : words) {
            is("word " + word, x.printed(word, 0, true), -2);
            is("not word " + word, x.printed(word, 0, false), -2);
        }
        int[] days = {-1, 31, 32, 999, Edges.LEAST, Edges.MOST};
        for (int day : days) {
            is("day " + day, x.printed(0, day, true), -2);
            is("not on day " + day, x.printed(0, day, false), -2);
        }
        Edges.unchanged(x, before);
        is("day 0", x.printed(0, 0, true), 3);
        is("day 30", x.printed(0, 30, true), 4);
        is("the last word", x.printed(4, 30, true), 5);
    }

    // ---- spells: promise 37

    private static void spellsOfADay() {
        says("IV: SPELLS: from a DAY to a DAY (0 <= from <= to <= 30), or none at all");
        LettersOnStrike x = told();
        is("how many", x.spells(0, NONE), ANY);
        is("none at all is ahead of all", x.spells(0, 0), NONE);
        is("day 0 alone", x.spells(0, 1), 0);
        is("day 0 to 1", x.spells(0, 2), 1);
        is("day 0 to 30", x.spells(0, 31), 30);
        is("day 1 alone", x.spells(0, 32), 31 + 1);
        is("day 1 to 30", x.spells(0, 61), 31 + 30);
        is("day 30 alone", x.spells(0, ANY - 1), 31 * 30 + 30);
        is("a letter of no word", x.spells(25, NONE), ANY);
    }

    private static void spellsOnTheFirstAndLastDay() {
        says("IV: on all of which it was OUT, and else not");
        LettersOnStrike x = told();
        x.printed(0, 0, false);
        is("out on day 0", x.spells(0, NONE), 31);
        is("the first", x.spells(0, 0), 0);
        is("the last", x.spells(0, 30), 30);
        x.printed(0, 30, false);
        is("out on days 0 and 30", x.spells(0, NONE), 1);
        is("on all days", x.spells(0, 0), 30);
        x.printed(0, 15, true);
        is("and in on day 15", x.spells(0, NONE), 0);
        is("none at all", x.spells(0, 0), -2);
        LettersOnStrike y = told();
        y.printed(0, 0, true);
        is("in on day 0", y.spells(0, NONE), 1 + 30 * 31 / 2);
        is("the first", y.spells(0, 1), 31 + 1);
        y.printed(0, 30, true);
        is("in on day 30, too", y.spells(0, NONE), 1 + 29 * 30 / 2);
        is("the last", y.spells(0, 435), 31 * 29 + 29);
        LettersOnStrike z = told();
        z.printed(0, 30, false);
        is("out on day 30", z.spells(0, NONE), 31);
        is("the first", z.spells(0, 0), 30);
        is("the last", z.spells(0, 30), 31 * 30 + 30);
    }

    private static void lettersNotAllThere() {
        says("IV: or that the WORD couldn't be (its LETTERS weren't all there)");
        LettersOnStrike x = told();
        x.printed(2, 10, false);
        is("a, or b: either may have been out", x.spells(0, NONE), ANY);
        is("b", x.spells(1, NONE), ANY);
        x.printed(1, 10, true);
        is("b was there, so a wasn't", x.spells(0, NONE), 11 * 21);
        is("a: the first", x.spells(0, 0), 10);
        is("b was in", x.spells(1, NONE), 1 + 10 * 11 / 2 + 20 * 21 / 2);
        is("c is free", x.spells(2, NONE), ANY);
        x.printed(1, 11, true);
        is("another day is no matter to a", x.spells(0, NONE), 11 * 21);
        x.printed(0, 10, true);
        is("nothing goes with that", x.spells(0, NONE), 0);
        is("nor for c", x.spells(2, NONE), 0);
        is("the first of none", x.spells(0, 0), -2);
        is("the first of none for c", x.spells(2, 0), -2);
    }

    private static void otherLettersAsOneLikes() {
        says("IV: that go with all that was PRINTED, the other LETTERS having been OUT as one likes");
        LettersOnStrike x = told();
        x.printed(2, 4, false);
        x.printed(0, 4, true);
        x.printed(3, 6, false);
        x.printed(2, 6, true);
        is("c was out on day 6", x.spells(2, NONE), 7 * 25);
        is("b was out on day 4 and in on day 6", x.spells(1, NONE), 5 * 2);
        is("b: first", x.spells(1, 0), 4);
        is("b: last", x.spells(1, 9), 31 * 4 + 5);
        is("a was in on both", x.spells(0, NONE), 1 + 4 * 5 / 2 + 1 + 24 * 25 / 2);
    }

    private static void signsAside() {
        says("IV: PRINTED (SIGNS aside)");
        LettersOnStrike x = told();
        x.sign(0, 3);
        x.strike(set("ab"));
        x.morning(5);
        x.printed(0, 3, true);
        is("a was in, whatever its sign", x.spells(0, NONE), 1 + 3 * 4 / 2 + 27 * 28 / 2);
        is("b, whoever is out now", x.spells(1, NONE), ANY);
    }

    private static void spellsOthers() {
        says("37: -2 if there is none such, and for others");
        LettersOnStrike x = Edges.busy();
        int[] letters = {-1, 26, 32, Edges.LEAST, Edges.MOST};
        for (int letter : letters) {
            is("how many of letter " + letter, x.spells(letter, NONE), -2);
            is("the first of letter " + letter, x.spells(letter, 0), -2);
        }
        int[] places = {-2, -3, ANY, ANY + 1, Edges.LEAST, Edges.MOST};
        for (int i : places) {
            is("the " + i + "-th", x.spells(25, i), -2);
        }
        is("the last", x.spells(25, ANY - 1), 31 * 30 + 30);
    }

    // ---- images: promises 39 and 40

    private static void imageIsAsAllIsNow() {
        says("39: THE IMAGE is as all is now: DAY");
        LettersOnStrike x = Edges.busy();
        String before = Edges.look(x);
        is("image", x.image(), 2);
        Edges.unchanged(x, before);
        is("back to it", x.back(), 2);
        Edges.unchanged(x, before);
        x.morning(5);
        is("another one", x.image(), 7);
        x.morning(1);
        is("back to that", x.back(), 7);
        is("not to the first", x.about(2), 7);
        is("image of a new one", Edges.fresh().image(), 0);
    }

    private static void backStays() {
        says("40: BACK to THE IMAGE (it stays): DAY");
        LettersOnStrike x = Edges.busy();
        x.image();
        String before = Edges.look(x);
        for (int i = 0; i < 3; i++) {
            x.year(i, 30);
            x.tie(i, 20);
            Due.word(x, "w" + (char) ('a' + i), 3);
            is("back", x.back(), 2);
            Edges.unchanged(x, before);
        }
        is("back again", x.back(), 2);
        Edges.unchanged(x, before);
    }

    private static void allButTheTapeAndTheFault() {
        says("V: AN IMAGE: all as it is, but the tape and the latest FAULT");
        LettersOnStrike x = Edges.busy();
        x.image();
        is("bytes", x.about(10), 8);
        Due.tape(x, "price wage;");
        x.back();
        is("the tape stays", x.about(10), 11);
        x.text();
        is("fault", x.fault(0), 5);
        Due.tape(x, "strike b;");
        x.back();
        is("the fault stays", x.fault(0), 5);
        is("its place stays", x.fault(1), 6);
        is("the tape stays", x.about(10), 9);
        is("it is a text", x.text(), 2);
        x.end(0);
        x.image();
        Due.tape(x, "back b;");
        x.back();
        is("an empty tape isn't of the image", x.about(10), 7);
    }

    private static void wordsAndSayingsGo() {
        says("V: BACK: all is so again (WORDS, SAYINGS, TIES)");
        LettersOnStrike x = Edges.pantry();
        x.tie(0, 1);
        x.image();
        Due.word(x, "ox", 1);
        x.saying(1999);
        x.tie(0, 2);
        x.back();
        is("words", x.about(0), 5);
        is("ox isn't told", x.ofWord(5, 0), NONE);
        is("sayings", x.about(1), 3);
        is("no fourth", x.ofSaying(3, 0), NONE);
        is("ties", x.of(0, 4), 2);
        is("another word", Due.word(x, "fig", 4), 5);
        is("its letters", x.ofWord(5, 0), 3);
        is("its sense", x.ofWord(5, 1), 4);
        is("another saying", x.saying(114), 3);
        is("its senses", x.ofSaying(3, 0), 2);
        is("how it is said", x.said(3, 0, 1), 5);
    }

    private static void lettersAreSoAgain() {
        says("V: BACK: all is so again (who is OUT, SINCE, WAGES, SIGNS, DAY, X, STEPS)");
        LettersOnStrike x = Edges.fresh();
        x.raise(3, 7);
        x.sign(3, 7);
        x.strike(8);
        x.morning(4);
        x.year(3, 1);
        int drawn = x.about(3);
        x.image();
        x.raise(3, 8);
        x.sign(3, 8);
        x.comeBack(8);
        x.morning(9);
        x.year(4, 1);
        is("back", x.back(), 4);
        is("wage", x.of(3, 0), 7);
        is("since", x.of(3, 1), 4);
        is("out", x.of(3, 2), 1);
        is("sign", x.of(3, 3), 7);
        is("X", x.about(3), drawn);
        is("steps", x.about(6), 8);
        is("undo the year", x.undo(), 7);
        is("X as at first", x.about(3), 17);
        for (int i = 6; i >= 0; i--) {
            is("undo", x.undo(), i);
        }
        is("wage as at first", x.of(3, 0), 1);
        is("none more", x.undo(), NONE);
        is("back again", x.back(), 4);
        is("steps again", x.about(6), 8);
    }

    private static void fullHistoryIsSoAgain() {
        says("V: BACK: all is so again (30 STEPS, of more)");
        LettersOnStrike x = Edges.fresh();
        for (int i = 0; i < 40; i++) {
            x.raise(0, 10 + i);
        }
        x.image();
        for (int i = 0; i < 32; i++) {
            x.raise(1, 10 + i);
        }
        x.back();
        is("steps", x.about(6), 30);
        for (int i = 29; i >= 0; i--) {
            is("undo", x.undo(), i);
            is("the wage ahead of it", x.of(0, 0), 19 + i);
        }
        is("wage of b", x.of(1, 0), 1);
        x.back();
        x.raise(0, 99);
        is("one more", x.about(6), 30);
        x.undo();
        is("the wage of the image", x.of(0, 0), 49);
    }

    private static void contractsAreSoAgain() {
        says("V: BACK: all is so again (CONTRACTS)");
        LettersOnStrike x = Edges.pantry();
        x.saying(12222);
        x.morning(3);
        x.contract(0);
        x.contract(3);
        x.image();
        x.undo();
        x.undo();
        x.undo();
        x.strike(set("l"));
        x.contract(1);
        x.contract(0);
        x.contract(0);
        is("other ones", x.signed(0, 0), 1);
        x.back();
        is("how many", x.signed(NONE, 0), 2);
        is("saying of the first", x.signed(0, 0), 0);
        is("day of the first", x.signed(0, 1), 3);
        is("words of the first", x.signed(0, 2), 2);
        is("its first word", x.signed(0, 10), 3);
        is("its second word", x.signed(0, 11), 0);
        is("saying of the second", x.signed(1, 0), 3);
        is("day of the second", x.signed(1, 1), 3);
        is("words of the second", x.signed(1, 2), 4);
        is("its last word", x.signed(1, 13), 0);
        is("no third", x.signed(2, 0), -2);
        tenContractsAreSoAgain(x);
    }

    private static void tenContractsAreSoAgain(LettersOnStrike x) {
        for (int i = 2; i < 10; i++) {
            x.contract(i % 2 == 0 ? 0 : 3);
        }
        x.image();
        for (int i = 0; i < 10; i++) {
            x.undo();
        }
        x.strike(set("t"));
        for (int i = 0; i < 10; i++) {
            x.contract(1);
        }
        x.back();
        for (int i = 0; i < 10; i++) {
            boolean longer = i % 2 == 1;
            is("saying of " + i, x.signed(i, 0), longer ? 3 : 0);
            is("day of " + i, x.signed(i, 1), 3);
            is("words of " + i, x.signed(i, 2), longer ? 4 : 2);
            is("first word of " + i, x.signed(i, 10), longer ? 0 : 3);
            is("last word of " + i, x.signed(i, longer ? 13 : 11), 0);
            is("behind it: " + i, x.signed(i, longer ? 14 : 12), -2);
        }
    }

    private static void partiesAndPrintsAreSoAgain() {
        says("V: BACK: all is so again (PARTIES, PRINTED)");
        LettersOnStrike x = Edges.pantry();
        x.party(set("a"));
        x.party(set("l"));
        x.printed(0, 3, true);
        x.printed(2, 7, false);
        x.image();
        x.party(NONE);
        x.party(set("z"));
        x.party(set("e"));
        x.party(set("b"));
        x.printed(NONE, 0, true);
        x.printed(3, 9, false);
        x.printed(4, 8, true);
        x.printed(1, 8, true);
        is("worth of z", x.worth(1), 1);
        x.back();
        is("parties", x.about(8), 2);
        is("worth of a", x.worth(1), 2);
        is("worth of l", x.worth(2), 1);
        is("printed", x.about(9), 2);
        is("t was in on day 3", x.spells(19, NONE), 1 + 3 * 4 / 2 + 27 * 28 / 2);
        is("r, u or m was out on day 7", x.spells(17, NONE), ANY);
        x.printed(2, 8, true);
        is("r was in on day 8 and is suspected on day 7", x.spells(17, NONE), 1 + 8 * 9 / 2 + 22 * 23 / 2);
        is("b was in on no day", x.spells(1, NONE), ANY);
    }

    private static void textsAreSoAgain() {
        says("V: BACK: all is so again (TEXTS, THE TEXT)");
        LettersOnStrike x = Edges.pantry();
        Due.text(x, "price 1;");
        Due.text(x, "price 2;strike b;");
        x.by(1);
        x.image();
        Due.text(x, "price 3;");
        Due.text(x, "price 4;");
        x.by(3);
        is("price", x.dear(0), 8);
        x.back();
        is("texts", x.about(4), 2);
        is("the text", x.about(5), 1);
        is("price", x.dear(0), 4);
        is("by a text that is gone", x.by(2) ? 1 : 0, 0);
        is("played by it", x.played(3), -2);
        is("a text with a fault", Due.text(x, "price 7;!"), NONE);
        is("another one", Due.text(x, "price 5;back b;"), 2);
        x.by(2);
        is("price by that", x.dear(0), 10);
        is("played by the image's", x.played(1), NONE);
        is("b is out", x.about(7), 2);
        is("played by the other one", x.played(2), NONE);
        is("b is back", x.about(7), 0);
        x.back();
        is("price again", x.dear(0), 4);
        x.by(NONE);
        x.image();
        x.by(0);
        x.back();
        is("none rules", x.about(5), NONE);
    }

    private static void backToTheNewOne() {
        says("40: BACK to THE IMAGE (1: THE IMAGE is this)");
        LettersOnStrike x = Edges.busy();
        x.back();
        is("words", x.about(0), 0);
        is("another first word", Due.word(x, "ox", 3), 0);
        is("its letters", x.ofWord(0, 0), 2);
        is("its first one", x.ofWord(0, 10), 14);
        is("another first saying", x.saying(1333), 0);
        is("how it is said", x.said(0, 0, NONE), 6);
        is("another first contract", x.contract(0), 0);
        is("its words", x.signed(0, 2), 3);
        is("a first text", Due.text(x, "price 8;"), 0);
        x.by(0);
        is("its price", x.dear(0), 24);
        is("image", x.image(), 0);
        x.morning(1);
        x.back();
        is("words of it", x.about(0), 1);
        is("the word", x.ofWord(0, 10), 14);
    }

    // ---- about: promise 41

    private static void abouts() {
        says("41: about");
        LettersOnStrike x = Edges.busy();
        int[] due = {5, 3, 2, 17, 2, 1, 6, set("tz"), 2, 2, 8, 2};
        for (int what = 0; what < due.length; what++) {
            is("about(" + what + ")", x.about(what), due[what]);
        }
        x.by(NONE);
        is("5 THE TEXT (NONE)", x.about(5), NONE);
        x.strike(Edges.ALL);
        is("7 who is OUT (bits)", x.about(7), Edges.ALL);
        is("11 how many are OUT", x.about(11), 26);
        says("41: -2 for others");
        int[] wrong = {-1, 12, 13, -2, 100, Edges.LEAST, Edges.MOST};
        for (int what : wrong) {
            is("about(" + what + ")", x.about(what), -2);
        }
        is("the constant NONE", LettersOnStrike.NONE, -1);
    }

    public static void main(String[] args) {
        twelvePrinted();
        nonePrintedAnyMore();
        printedOthers();
        spellsOfADay();
        spellsOnTheFirstAndLastDay();
        lettersNotAllThere();
        otherLettersAsOneLikes();
        signsAside();
        spellsOthers();
        imageIsAsAllIsNow();
        backStays();
        allButTheTapeAndTheFault();
        wordsAndSayingsGo();
        lettersAreSoAgain();
        fullHistoryIsSoAgain();
        contractsAreSoAgain();
        partiesAndPrintsAreSoAgain();
        textsAreSoAgain();
        backToTheNewOne();
        abouts();
        Due.end("PrintsEdgesTest");
    }
}
