/** Promises 3, 4, 15, 20 to 24 and 38: each sentence about words, sayings and contracts that names an edge. */
public final class WordsEdgesTest {
    private static final int NONE = Edges.NONE;

    private static void says(String words) {
        Edges.says(words);
    }

    private static void is(String call, long got, long want) {
        Edges.is(call, got, want);
    }

    private static void is(String call, boolean got, boolean want) {
        Edges.is(call, got, want);
    }

    private static int set(String letters) {
        return Due.set(letters);
    }

    // ---- words: promise 3

    private static void upToEightLetters() {
        says("3: up to 8 LETTERS, four in one and four in other, the lowest byte first (97 .. 122)");
        LettersOnStrike x = Edges.fresh();
        is("abcdefgh", x.word(0x64636261, 0x68676665, 1), 0);
        is("z", x.word(122, 0, 1), 1);
        is("a", x.word(97, 0, 1), 2);
        is("zzzz", x.word(0x7a7a7a7a, 0, 1), 3);
        is("zzzza", x.word(0x7a7a7a7a, 97, 1), 4);
        for (int i = 0; i < 8; i++) {
            is("the " + i + "-th of abcdefgh", x.ofWord(0, 10 + i), i);
        }
        is("how many", x.ofWord(0, 0), 8);
        is("of z", x.ofWord(1, 0), 1);
        is("its only one", x.ofWord(1, 10), 25);
        is("of zzzz", x.ofWord(3, 0), 4);
        is("of zzzza", x.ofWord(4, 0), 5);
        is("its last", x.ofWord(4, 14), 0);
    }

    private static void noLetters() {
        says("3: NONE for others (I: 1 to 8 LETTERS)");
        LettersOnStrike x = Edges.busy();
        String before = Edges.look(x);
        is("none", x.word(0, 0, 1), NONE);
        is("none in one", x.word(0, 97, 1), NONE);
        is("none in one, four in other", x.word(0, 0x61616161, 1), NONE);
        Edges.unchanged(x, before);
    }

    private static void bytesOfOthers() {
        says("3: NONE for others (97 .. 122; 0 behind the last)");
        LettersOnStrike x = Edges.busy();
        String before = Edges.look(x);
        int[] bytes = {1, 9, 10, 32, 48, 65, 90, 96, 123, 127, 128, 225, 255};
        for (int b : bytes) {
            is("first: " + b, x.word(b, 0, 1), NONE);
            is("second: " + b, x.word(97 | b << 8, 0, 1), NONE);
            is("fourth: " + b, x.word(0x616161 | b << 24, 0, 1), NONE);
            is("fifth: " + b, x.word(0x61616161, b, 1), NONE);
            is("eighth: " + b, x.word(0x61616161, 0x616161 | b << 24, 1), NONE);
            is("behind the last: " + b, x.word(97 | b << 16, 0, 1), NONE);
        }
        is("a gap of one", x.word(0x610061, 0, 1), NONE);
        is("a gap at the first", x.word(0x6100, 0, 1), NONE);
        is("a gap at the fourth", x.word(0x616161, 97, 1), NONE);
        is("a gap at the seventh", x.word(0x61616161, 0x61006161, 1), NONE);
        Edges.unchanged(x, before);
    }

    private static void sensesOfWords() {
        says("3: NONE for others (I: a SENSE 0 .. 9)");
        LettersOnStrike x = Edges.busy();
        String before = Edges.look(x);
        int[] wrong = {-1, 10, 11, -2, Edges.LEAST, Edges.MOST};
        for (int sense : wrong) {
            is("sense " + sense, x.word(122, 0, sense), NONE);
        }
        Edges.unchanged(x, before);
        is("sense 0", x.word(122, 0, 0), 5);
        is("sense 9", x.word(121, 0, 9), 6);
        is("of z", x.ofWord(5, 1), 0);
        is("of y", x.ofWord(6, 1), 9);
    }

    private static void toldAlready() {
        says("3: if it is told already (I: no two alike)");
        LettersOnStrike x = Edges.busy();
        Due.word(x, "abcdefgh", 0);
        String before = Edges.look(x);
        is("tea", Due.word(x, "tea", 2), NONE);
        is("tea with another sense", Due.word(x, "tea", 3), NONE);
        is("bread, the last but one", Due.word(x, "bread", 1), NONE);
        is("abcdefgh", Due.word(x, "abcdefgh", 0), NONE);
        Edges.unchanged(x, before);
        is("te is another", Due.word(x, "te", 2), 6);
        is("teat is another", Due.word(x, "teat", 2), 7);
        is("eat is another", Due.word(x, "eat", 2), 8);
        is("abcdefgi is another", Due.word(x, "abcdefgi", 0), 9);
        is("abcdefg is another", Due.word(x, "abcdefg", 0), 10);
        is("played: tea", x.played(Due.text(x, "word tea means 1;")), 0);
    }

    private static void twentyFourWords() {
        says("3: or if there are 24 (I: WORDS 0 .. 23)");
        LettersOnStrike x = Edges.fresh();
        for (int i = 0; i < 24; i++) {
            is("word " + i, Due.word(x, "" + (char) ('a' + i), i % 10), i);
        }
        is("the 25th", Due.word(x, "y", 0), NONE);
        is("a told one", Due.word(x, "a", 0), NONE);
        is("words", x.about(0), 24);
        is("of 23", x.ofWord(23, 10), 23);
        is("sense of 23", x.ofWord(23, 1), 3);
        is("of 24", x.ofWord(24, 0), NONE);
        is("played: the 25th", x.played(Due.text(x, "word y means 0;")), 0);
        is("words", x.about(0), 24);
    }

    // ---- sayings: promise 4

    private static void oneToEightSenses() {
        says("4: SENSES as decimal digits of a number, the first in front behind a 1 (1 to 8 of them)");
        LettersOnStrike x = Edges.fresh();
        is("one: 0", x.saying(10), 0);
        is("one: 9", x.saying(19), 1);
        is("eight: 0", x.saying(100000000), 2);
        is("eight: 9", x.saying(199999999), 3);
        is("eight: 1 to 8", x.saying(112345678), 4);
        is("two: 0 1", x.saying(101), 5);
        is("how many", x.ofSaying(0, 0), 1);
        is("0", x.ofSaying(0, 10), 0);
        is("9", x.ofSaying(1, 10), 9);
        is("how many of eight", x.ofSaying(2, 0), 8);
        is("eight 0, the last", x.ofSaying(2, 17), 0);
        is("eight 9, the last", x.ofSaying(3, 17), 9);
        for (int i = 0; i < 8; i++) {
            is("of 1 to 8: " + i, x.ofSaying(4, 10 + i), i + 1);
        }
        is("0 first", x.ofSaying(5, 10), 0);
        is("1 second", x.ofSaying(5, 11), 1);
    }

    private static void sayingsOfOthers() {
        says("4: NONE for others");
        LettersOnStrike x = Edges.busy();
        String before = Edges.look(x);
        int[] wrong = {0, 1, 2, 5, 9, 20, 29, 99, 200, 212, 999, 2000, 20000000, 99999999, 200000000, 212345678,
            999999999, 1000000000, 1123456789, 1999999999, -1, -10, -12, -112, Edges.LEAST, Edges.MOST};
        for (int senses : wrong) {
            is("saying(" + senses + ")", x.saying(senses), NONE);
        }
        Edges.unchanged(x, before);
    }

    private static void eightSayings() {
        says("4: or if there are 8 (I: SAYINGS 0 .. 7)");
        LettersOnStrike x = Edges.fresh();
        for (int i = 0; i < 8; i++) {
            is("saying " + i, x.saying(10 + i), i);
        }
        is("the 9th", x.saying(18), NONE);
        is("sayings", x.about(1), 8);
        is("of 7", x.ofSaying(7, 10), 7);
        is("of 8", x.ofSaying(8, 0), NONE);
        is("played: the 9th", x.played(Due.text(x, "say 1;")), 0);
    }

    // ---- contracts: promise 15

    private static void contractAsSaid() {
        says("15: SIGNED, SAID NOW (I: a SAYING as it was SAID on a DAY: its WORDS)");
        LettersOnStrike x = Edges.pantry();
        x.morning(7);
        x.strike(set("t"));
        is("the first", x.contract(0), 0);
        x.comeBack(set("t"));
        Due.word(x, "ox", 2);
        x.morning(1);
        is("the second", x.contract(0), 1);
        is("sea of the first", x.signed(0, 11), 1);
        is("day of the first", x.signed(0, 1), 7);
        is("ox of the second", x.signed(1, 11), 5);
        is("day of the second", x.signed(1, 1), 8);
        x.sign(11, 0);
        x.strike(set("lt"));
        is("the third: with a sign", x.contract(0), 2);
        is("loaf", x.signed(2, 10), 3);
    }

    private static void contractsOfOthers() {
        says("15: NONE for others");
        LettersOnStrike x = Edges.busy();
        String before = Edges.look(x);
        int[] wrong = {-1, 3, 7, 8, Edges.LEAST, Edges.MOST};
        for (int saying : wrong) {
            is("contract(" + saying + ")", x.contract(saying), NONE);
        }
        Edges.unchanged(x, before);
    }

    private static void contractsUnsaid() {
        says("15: if it can't be SAID");
        LettersOnStrike x = Edges.busy();
        x.strike(set("a"));
        String before = Edges.look(x);
        is("loaf and bread have an a", x.contract(0), NONE);
        is("no word of it", x.contract(2), NONE);
        Edges.unchanged(x, before);
        is("rum has none", x.contract(1), 1);
        x.sign(0, 9);
        is("a has a sign", x.contract(0), 2);
    }

    private static void tenContracts() {
        says("15: or if there are 10 (I: CONTRACTS, 10 at most)");
        LettersOnStrike x = Edges.pantry();
        for (int i = 0; i < 10; i++) {
            is("contract " + i, x.contract(i % 2), i);
        }
        is("the 11th", x.contract(0), NONE);
        is("how many", x.signed(NONE, 0), 10);
        is("steps", x.about(6), 10);
        is("saying of the last", x.signed(9, 0), 1);
        is("no 11th", x.signed(10, 0), -2);
        x.undo();
        is("the 10th again", x.contract(0), 9);
        is("its saying", x.signed(9, 0), 0);
        is("played: the 11th", x.played(Due.text(x, "contract 0;")), 0);
    }

    // ---- promises 20 and 21

    private static void ofWordOthers() {
        says("20: NONE for others");
        LettersOnStrike x = Edges.busy();
        int[] words = {-1, 5, 23, 24, Edges.LEAST, Edges.MOST};
        for (int word : words) {
            int[] whats = {0, 1, 2, 3, 10};
            for (int what : whats) {
                is("ofWord(" + word + ", " + what + ")", x.ofWord(word, what), NONE);
            }
        }
        int[] whats = {-1, 4, 5, 9, 13, 18, Edges.LEAST, Edges.MOST};
        for (int what : whats) {
            is("ofWord(0, " + what + ")", x.ofWord(0, what), NONE);
        }
        is("the last of bread", x.ofWord(4, 14), 3);
        is("behind it", x.ofWord(4, 15), NONE);
    }

    private static void canBeWritten() {
        says("20: 3 whether it CAN be written (I: each of its LETTERS is not OUT or has a SIGN)");
        LettersOnStrike x = Edges.pantry();
        is("nobody out", x.ofWord(0, 3), 1);
        x.strike(set("xyz"));
        is("others out", x.ofWord(0, 3), 1);
        x.strike(set("a"));
        is("the last letter out", x.ofWord(0, 3), 0);
        x.sign(0, 0);
        is("it has a sign, 0", x.ofWord(0, 3), 1);
        x.strike(set("t"));
        is("the first letter out, too", x.ofWord(0, 3), 0);
        is("sea", x.ofWord(1, 3), 1);
        x.sign(19, 9);
        is("both have signs", x.ofWord(0, 3), 1);
        x.sign(0, NONE);
        is("one has lost its", x.ofWord(0, 3), 0);
        x.comeBack(set("a"));
        is("but is back", x.ofWord(0, 3), 1);
    }

    private static void ofSayingOthers() {
        says("21: NONE for others");
        LettersOnStrike x = Edges.busy();
        int[] sayings = {-1, 3, 7, 8, Edges.LEAST, Edges.MOST};
        for (int saying : sayings) {
            is("ofSaying(" + saying + ", 0)", x.ofSaying(saying, 0), NONE);
            is("ofSaying(" + saying + ", 10)", x.ofSaying(saying, 10), NONE);
        }
        int[] whats = {-1, 1, 2, 9, 12, 18, Edges.LEAST, Edges.MOST};
        for (int what : whats) {
            is("ofSaying(0, " + what + ")", x.ofSaying(0, what), NONE);
        }
        is("the last one", x.ofSaying(0, 11), 2);
        is("behind the only one", x.ofSaying(2, 11), NONE);
    }

    // ---- mistaken: promise 22

    private static void twoUnlikeWords() {
        says("22: two unlike WORDS");
        LettersOnStrike x = Edges.pantry();
        x.strike(set("stm"));
        x.sign(18, 5);
        x.sign(19, 5);
        is("tea and sea", x.mistaken(0, 1), true);
        is("sea and tea", x.mistaken(1, 0), true);
        for (int word = 0; word < 5; word++) {
            is("a word itself: " + word, x.mistaken(word, word), false);
        }
    }

    private static void mistakenOthers() {
        says("22: False for others");
        LettersOnStrike x = Edges.pantry();
        x.strike(set("st"));
        x.sign(18, 5);
        x.sign(19, 5);
        int[] wrong = {-1, 5, 24, Edges.LEAST, Edges.MOST};
        for (int word : wrong) {
            is("mistaken(" + word + ", 0)", x.mistaken(word, 0), false);
            is("mistaken(1, " + word + ")", x.mistaken(1, word), false);
            is("mistaken(" + word + ", " + word + ")", x.mistaken(word, word), false);
        }
    }

    private static void mistakenNow() {
        says("22: are MISTAKEN now (I: if they look alike: as written, a LETTER that is OUT as its SIGN)");
        LettersOnStrike x = Edges.pantry();
        x.sign(18, 0);
        x.sign(19, 0);
        is("neither is out", x.mistaken(0, 1), false);
        x.strike(set("s"));
        is("one is out", x.mistaken(0, 1), false);
        x.strike(set("t"));
        is("both are out", x.mistaken(0, 1), true);
        x.sign(19, 1);
        is("with another sign", x.mistaken(0, 1), false);
        x.sign(18, 1);
        is("with the same again", x.mistaken(0, 1), true);
        x.comeBack(set("s"));
        is("one came back", x.mistaken(0, 1), false);
    }

    private static void mistakenPlaceByPlace() {
        says("I: if they look alike");
        LettersOnStrike x = Edges.fresh();
        Due.word(x, "ab", 0);
        Due.word(x, "ba", 0);
        Due.word(x, "abb", 0);
        Due.word(x, "ac", 0);
        Due.word(x, "cb", 0);
        x.sign(0, 7);
        x.sign(1, 7);
        x.strike(set("ab"));
        is("ab and ba", x.mistaken(0, 1), true);
        is("one is longer", x.mistaken(0, 2), false);
        is("one is shorter", x.mistaken(2, 0), false);
        is("unlike at the last place", x.mistaken(0, 3), false);
        is("unlike at the first place", x.mistaken(0, 4), false);
    }

    private static void aLetterIsNoSign() {
        says("I: as written (a LETTER that is OUT as its SIGN; another one as itself)");
        LettersOnStrike x = Edges.fresh();
        for (int i = 0; i < 23; i++) {
            Due.word(x, "" + (char) ('a' + i), 0);
        }
        x.strike(1 << 5);
        for (int sign = 0; sign <= 9; sign++) {
            x.sign(5, sign);
            for (int other = 0; other < 23; other++) {
                is("f as " + sign + " and " + other, x.mistaken(5, other), false);
            }
        }
    }

    // ---- said: promise 23

    private static void fewestLetters() {
        says("III: SAID by the WORD that CAN be written with the fewest LETTERS; of like ones the lowest");
        LettersOnStrike x = Edges.fresh();
        Due.word(x, "abcd", 1);
        Due.word(x, "efg", 1);
        Due.word(x, "hij", 1);
        Due.word(x, "kl", 2);
        Due.word(x, "mnopqrst", 1);
        x.saying(11);
        is("the lowest of the two of three", x.said(0, 0, 0), 1);
        is("the other one", x.said(0, set("e"), 0), 2);
        is("four", x.said(0, set("ej"), 0), 0);
        is("eight", x.said(0, set("eja"), 0), 4);
        is("its letters", x.said(0, set("eja"), NONE), 8);
        is("none", x.said(0, set("ejam"), 0), NONE);
    }

    private static void wordByWord() {
        says("23: its i-th WORD; i NONE: how many LETTERS together");
        LettersOnStrike x = Edges.pantry();
        x.saying(112121212);
        is("the first", x.said(3, 0, 0), 3);
        is("the last", x.said(3, 0, 7), 0);
        is("letters", x.said(3, 0, NONE), 28);
        says("23: NONE: there is none such");
        is("behind the last", x.said(3, 0, 8), NONE);
        is("behind the last of two", x.said(0, 0, 2), NONE);
        is("far", x.said(0, 0, Edges.MOST), NONE);
    }

    private static void cantBeSaid() {
        says("23: NONE: it can't be (III: if one of its SENSES can't)");
        LettersOnStrike x = Edges.pantry();
        x.saying(1125);
        is("the first could", x.said(3, 0, 0), NONE);
        is("the second could", x.said(3, 0, 1), NONE);
        is("the third can't", x.said(3, 0, 2), NONE);
        is("letters", x.said(3, 0, NONE), NONE);
        is("without a", x.said(0, 1, 1), NONE);
        is("without all", x.said(1, Edges.ALL, 0), NONE);
    }

    private static void lowestAndHighestSense() {
        says("III: SAID by the WORD of it (a SENSE, 0 .. 9)");
        LettersOnStrike x = Edges.fresh();
        x.saying(10);
        x.saying(19);
        x.saying(190);
        for (int saying = 0; saying < 3; saying++) {
            is("no words: " + saying, x.said(saying, 0, NONE), NONE);
            is("no words now: " + saying, x.said(saying, NONE, NONE), NONE);
            is("no words, no price: " + saying, x.dear(saying), NONE);
            is("no words, no contract: " + saying, x.contract(saying), NONE);
        }
        Due.word(x, "ab", 0);
        is("0", x.said(0, 0, NONE), 2);
        is("9 yet not", x.said(1, 0, NONE), NONE);
        is("9 and 0 yet not", x.said(2, 0, NONE), NONE);
        Due.word(x, "cde", 9);
        is("9", x.said(1, 0, NONE), 3);
        is("9 and 0", x.said(2, 0, NONE), 5);
        is("without a", x.said(2, 1, NONE), NONE);
        is("without a: 0", x.said(0, 1, NONE), NONE);
        is("without a: 9", x.said(1, 1, 0), 1);
    }

    private static void saidOthers() {
        says("23: and for others");
        LettersOnStrike x = Edges.busy();
        int[] sayings = {-1, 3, 8, Edges.LEAST, Edges.MOST};
        for (int saying : sayings) {
            is("said(" + saying + ", 0, 0)", x.said(saying, 0, 0), NONE);
            is("said(" + saying + ", NONE, NONE)", x.said(saying, NONE, NONE), NONE);
        }
        int[] sets = {-2, 1 << 26, 1 << 30, Edges.LEAST, Edges.MOST};
        for (int letters : sets) {
            is("said(0, " + letters + ", 0)", x.said(0, letters, 0), NONE);
            is("said(0, " + letters + ", NONE)", x.said(0, letters, NONE), NONE);
        }
        int[] places = {-2, Edges.LEAST, 2};
        for (int i : places) {
            is("said(0, 0, " + i + ")", x.said(0, 0, i), NONE);
        }
    }

    private static void asIfJustTheseWereOut() {
        says("III: WITHOUT a set of LETTERS (as if just these were OUT, SIGNS aside; or NOW: as it is, with SIGNS)");
        LettersOnStrike x = Edges.pantry();
        x.strike(set("lt"));
        x.sign(19, 3);
        is("an empty set: nobody is out", x.said(0, 0, 0), 3);
        is("now l is out", x.said(0, NONE, 0), 4);
        is("now t has a sign", x.said(0, NONE, 1), 0);
        is("t without its sign", x.said(0, set("t"), 1), 1);
        is("a set that stands in no word", x.said(0, 1 << 25, 0), 3);
    }

    // ---- dear: promise 24

    private static void dearOthers() {
        says("24: NONE: it can't be SAID, and for others");
        LettersOnStrike x = Edges.pantry();
        is("it can't", x.dear(2), NONE);
        int[] wrong = {-1, 3, 8, Edges.LEAST, Edges.MOST};
        for (int saying : wrong) {
            is("dear(" + saying + ")", x.dear(saying), NONE);
        }
        x.strike(set("a"));
        is("not now", x.dear(0), NONE);
        x.sign(0, 0);
        is("now, by a sign", x.dear(0), 9);
    }

    private static void priceBounds() {
        says("II: price: 0 at least, 999 at most");
        String[] sums = {"0", "-1", "0-5000", "1", "998", "999", "1000", "9999*9999", "-9999*9999"};
        int[] due = {0, 0, 0, 1, 998, 999, 999, 999, 0};
        for (int i = 0; i < sums.length; i++) {
            LettersOnStrike x = Edges.fresh();
            Due.word(x, "a", 1);
            x.saying(11);
            x.saying(111);
            x.by(Due.text(x, "price " + sums[i] + ";"));
            is("price " + sums[i], x.dear(0), due[i]);
            is("each word's: " + sums[i], x.dear(1), 2 * due[i]);
        }
    }

    private static void priceWithout() {
        says("II: price without: length and 1");
        LettersOnStrike x = Edges.fresh();
        Due.word(x, "a", 1);
        Due.word(x, "abcdefgh", 2);
        x.saying(11);
        x.saying(12);
        is("of one letter", x.dear(0), 2);
        is("of eight", x.dear(1), 9);
        x.by(Due.text(x, "joins 1=2;returns 1=2;binds 1=2;"));
        is("by a text without price", x.dear(1), 9);
        x.by(Due.text(x, "price 5;"));
        is("by a text with it", x.dear(1), 5);
        x.by(NONE);
        is("by none", x.dear(1), 9);
    }

    // ---- contracts told: promise 38

    private static void signedOthers() {
        says("38: -2 if there is none such, and for others");
        LettersOnStrike x = Edges.busy();
        int[] whats = {-1, -2, 6, 7, 9, 12, 18, Edges.LEAST, Edges.MOST};
        for (int what : whats) {
            is("signed(0, " + what + ")", x.signed(0, what), -2);
        }
        int[] contracts = {1, 9, 10, -2, Edges.LEAST, Edges.MOST};
        for (int i : contracts) {
            for (int what = 0; what < 6; what++) {
                is("signed(" + i + ", " + what + ")", x.signed(i, what), -2);
            }
            is("signed(" + i + ", 10)", x.signed(i, 10), -2);
        }
        is("how many", x.signed(NONE, 0), 1);
        is("its last word", x.signed(0, 11), 0);
        is("none signed", Edges.fresh().signed(0, 0), -2);
        is("how many then", Edges.fresh().signed(NONE, 0), 0);
    }

    private static void eachOfItsWords() {
        says("38: 10 + k its k-th WORD");
        LettersOnStrike x = Edges.pantry();
        x.saying(111111112);
        x.contract(3);
        is("how many", x.signed(0, 2), 8);
        is("first", x.signed(0, 10), 3);
        is("seventh", x.signed(0, 16), 3);
        is("last", x.signed(0, 17), 0);
        is("behind it", x.signed(0, 18), -2);
    }

    private static void lapsed() {
        says("IV: LAPSED: a CONTRACT that doesn't bind now (II: binds without: if broken is 0)");
        LettersOnStrike x = Edges.pantry();
        x.contract(0);
        is("binds", x.signed(0, 3), 1);
        is("broken", x.signed(0, 4), 0);
        x.strike(set("f"));
        is("one is broken", x.signed(0, 4), 1);
        is("lapsed", x.signed(0, 3), 0);
        x.strike(set("ao"));
        is("both are broken, each once", x.signed(0, 4), 2);
        x.sign(0, 1);
        x.sign(5, 1);
        is("o yet", x.signed(0, 4), 1);
        x.sign(14, 1);
        is("none is broken", x.signed(0, 4), 0);
        is("binds", x.signed(0, 3), 1);
        x.by(Due.text(x, "price 1;"));
        is("by a text without binds", x.signed(0, 3), 1);
        x.by(Due.text(x, "binds 1=2;"));
        is("by a text with it", x.signed(0, 3), 0);
    }

    private static void lapsedHasNoLoophole() {
        says("IV: LOOPHOLE of a CONTRACT that binds now");
        LettersOnStrike x = Edges.pantry();
        x.contract(0);
        x.strike(set("f"));
        is("lapsed: none", x.signed(0, 5), NONE);
        x.comeBack(set("f"));
        is("binds: a", x.signed(0, 5), 0);
    }

    private static void loopholeOfThoseIn() {
        says("IV: the LETTER that isn't OUT, and if it were OUT, too, it wouldn't bind; the lowest; none");
        LettersOnStrike x = Edges.fresh();
        Due.word(x, "bz", 1);
        x.saying(11);
        x.contract(0);
        is("b", x.signed(0, 5), 1);
        x.sign(1, 3);
        is("b has a sign: z", x.signed(0, 5), 25);
        x.strike(set("b"));
        is("b is out with its sign: z", x.signed(0, 5), 25);
        x.sign(25, 3);
        is("none", x.signed(0, 5), NONE);
        LettersOnStrike signs = Edges.fresh();
        Due.word(signs, "ac", 1);
        signs.saying(11);
        signs.contract(0);
        signs.sign(0, 0);
        is("a has a sign: c", signs.signed(0, 5), 2);
        signs.sign(2, 0);
        is("all have signs: none", signs.signed(0, 5), NONE);
        x.by(Due.text(x, "binds outs<2;"));
        is("any other one", x.signed(0, 5), 0);
        x.strike(set("a"));
        is("lapsed", x.signed(0, 3), 0);
        loopholeOfABrokenOne();
        LettersOnStrike y = Edges.fresh();
        Due.word(y, "c", 1);
        y.saying(11);
        y.contract(0);
        y.by(Due.text(y, "binds outs<26 and broken<9;"));
        y.strike(Edges.ALL & ~set("y"));
        is("y, the only one in", y.signed(0, 5), 24);
        y.strike(set("y"));
        is("all are out", y.signed(0, 3), 0);
        y.by(Due.text(y, "binds 1=1;"));
        is("all are out, and it binds", y.signed(0, 5), NONE);
    }

    private static void loopholeOfABrokenOne() {
        LettersOnStrike x = Edges.fresh();
        Due.word(x, "a", 1);
        Due.word(x, "e", 2);
        Due.word(x, "c", 3);
        x.saying(1123);
        x.contract(0);
        x.by(Due.text(x, "binds broken<2;"));
        is("one alone makes no loophole", x.signed(0, 5), NONE);
        x.strike(1);
        is("one is broken, and it binds", x.signed(0, 3), 1);
        is("c, too: the lowest that is in", x.signed(0, 5), 2);
    }

    public static void main(String[] args) {
        upToEightLetters();
        noLetters();
        bytesOfOthers();
        sensesOfWords();
        toldAlready();
        twentyFourWords();
        oneToEightSenses();
        sayingsOfOthers();
        eightSayings();
        contractAsSaid();
        contractsOfOthers();
        contractsUnsaid();
        tenContracts();
        ofWordOthers();
        canBeWritten();
        ofSayingOthers();
        twoUnlikeWords();
        mistakenOthers();
        mistakenNow();
        mistakenPlaceByPlace();
        aLetterIsNoSign();
        fewestLetters();
        wordByWord();
        cantBeSaid();
        lowestAndHighestSense();
        saidOthers();
        asIfJustTheseWereOut();
        dearOthers();
        priceBounds();
        priceWithout();
        signedOthers();
        eachOfItsWords();
        lapsed();
        lapsedHasNoLoophole();
        loopholeOfThoseIn();
        Due.end("WordsEdgesTest");
    }
}
