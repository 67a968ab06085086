/** An object that is full: 24 words of 8 letters, 8 sayings of 8 senses, and as many of all else as there can be. */
public final class FullEdgesTest {
    private static final int NONE = Edges.NONE;

    private static void says(String words) {
        Edges.says(words);
    }

    private static void is(String call, long got, long want) {
        Edges.is(call, got, want);
    }

    private static int set(String letters) {
        return Due.set(letters);
    }

    /** Words 0 .. 23: abcdefgh, bbcdefgh, .. xbcdefgh, of senses 0 .. 9 and again; sayings of 8 times 0, .. 8 times 7. */
    private static LettersOnStrike lexicon() {
        LettersOnStrike x = Edges.fresh();
        for (int i = 0; i < 24; i++) {
            is("word " + i, Due.word(x, (char) ('a' + i) + "bcdefgh", i % 10), i);
        }
        for (int i = 0; i < 8; i++) {
            is("saying " + i, x.saying(100000000 + 11111111 * i), i);
        }
        return x;
    }

    private static void words() {
        says("I: WORDS 0 .. 23: 1 to 8 LETTERS (all of them)");
        LettersOnStrike x = lexicon();
        is("words with a", x.of(0, 5), 1);
        is("words with b", x.of(1, 5), 24);
        is("words with x", x.of(23, 5), 1);
        is("words with y", x.of(24, 5), 0);
        is("the last letter of the last", x.ofWord(23, 17), 7);
        is("behind it", x.ofWord(23, 18), NONE);
        x.sign(22, 0);
        x.sign(23, 0);
        x.strike(set("wx"));
        is("the last two are mistaken", x.mistaken(22, 23) ? 1 : 0, 1);
        is("the last but one and another", x.mistaken(22, 21) ? 1 : 0, 0);
        x.sign(23, NONE);
        is("the last can't be written", x.ofWord(23, 3), 0);
        is("the last but one can", x.ofWord(22, 3), 1);
    }

    private static void sayings() {
        says("I: SAYINGS 0 .. 7: 1 to 8 SENSES (all of them)");
        LettersOnStrike x = lexicon();
        is("the last sense of the last", x.ofSaying(7, 17), 7);
        is("behind it", x.ofSaying(7, 18), NONE);
        is("letters of the last", x.said(7, 0, NONE), 64);
        is("its last word", x.said(7, 0, 7), 7);
        is("behind it", x.said(7, 0, 8), NONE);
        is("without h", x.said(7, set("h"), NONE), NONE);
        is("without h: its last word", x.said(7, set("h"), 7), NONE);
        is("dear", x.dear(7), 72);
        x.by(Due.text(x, "price 999;"));
        is("dearest", x.dear(7), 7992);
    }

    private static void plans() {
        says("III: STOP, SPARED, POWER, A GAME (24 WORDS, 8 SAYINGS)");
        LettersOnStrike x = lexicon();
        is("stop the first: b stands in all", x.stop(0), set("b"));
        is("stop the last", x.stop(7), set("b"));
        is("spared worst", x.spared(false), 1);
        is("all sayings", x.spared(true), 8);
        is("power of the last of ten that stand once", x.power(0, set("aijklmnopq"), 0, false), 0);
        is("a, k and u stop the first: power of u", x.power(0, set("akuvwxyzij"), 20, true), 3);
        is("game without b to h", x.game(7, set("ijklmnopqs"), false), 1);
        is("game with h: it is left to the first one", x.game(7, set("hijklmnop"), false), 0);
        is("game with h and one more", x.game(7, set("hijklmnopq"), false), 1);
    }

    private static void shares() {
        says("III: SHARES: up to 4 PARTIES (8 SAYINGS)");
        LettersOnStrike x = lexicon();
        String[] parties = {"b", "akublv", "cdefgh", "yz"};
        for (int i = 0; i < 4; i++) {
            is("party " + i, x.party(set(parties[i])), i + 1);
        }
        is("worth of b", x.worth(1), 8);
        is("worth of y and z", x.worth(8), 0);
        is("worth of all", x.worth(15), 8);
        is("b, too, stands in the second", x.worth(2), 8);
        is("24 is what the first three ask for", x.core(24, 3), 0);
        is("23 is too little", x.core(23, 0), NONE);
        is("of 30 the last has what is left", x.core(30, 3), 6);
    }

    private static void puzzles() {
        says("III: SIGNS FOR, SETTLEMENT, FIRST to learn, HAIR (24 WORDS)");
        LettersOnStrike x = lexicon();
        is("six that nothing but their signs tells", x.signsFor(set("stuvwx"), NONE), 6);
        is("the last", x.signsFor(set("stuvwx"), 23), 5);
        is("settlement of x", x.settlement(set("x"), 0), 23);
        is("its letters", x.settlement(set("x"), NONE), 8);
        is("settlement of four", x.settlement(set("uvwx"), NONE), 32);
        is("the last word", x.settlement(set("uvwx"), 3), 23);
        is("the first word", x.settlement(set("uvwx"), 0), 20);
        is("settlement of five", x.settlement(set("tuvwx"), NONE), NONE);
        is("settlement of y", x.settlement(set("y"), NONE), NONE);
        is("four letters write nothing", x.learn(4, true), 0);
        is("the lowest four", x.learn(4, false), set("abcd"));
        is("hair of the first", x.hair(0, NONE), 23);
        is("the last of these", x.hair(0, 22), 23);
        is("hair of the last", x.hair(23, NONE), 23);
        is("the last of these", x.hair(23, 22), 22);
        is("behind it", x.hair(23, 23), NONE);
    }

    private static void contracts() {
        says("I: CONTRACTS (10 at most): its WORDS (8 each)");
        LettersOnStrike x = lexicon();
        for (int i = 0; i < 10; i++) {
            is("contract " + i, x.contract(i % 8), i);
        }
        for (int i = 0; i < 10; i++) {
            is("words of " + i, x.signed(i, 2), 8);
            is("first word of " + i, x.signed(i, 10), i % 8);
            is("last word of " + i, x.signed(i, 17), i % 8);
            is("binds: " + i, x.signed(i, 3), 1);
            is("loophole of " + i, x.signed(i, 5), i % 8 == 0 ? 0 : 1);
        }
        x.strike(set("b"));
        is("all words of the last are broken", x.signed(9, 4), 8);
        is("it has lapsed", x.signed(9, 3), 0);
        is("no loophole", x.signed(9, 5), NONE);
        is("an 11th", x.contract(0), NONE);
    }

    private static void texts() {
        says("II: TEXTS 0 .. 3: of up to 300 bytes; {CLAUSE}, 24 at most");
        LettersOnStrike x = Edges.fresh();
        String deeds = "strike a;".repeat(12) + "back a;".repeat(12);
        String pairs = "strike a;back a;".repeat(12);
        String letters = "tie abcdefgh to abcdefgh;".repeat(12);
        for (int i = 0; i < 3; i++) {
            String text = i == 0 ? deeds : i == 1 ? pairs : letters;
            is("text " + i, Due.text(x, text + " ".repeat(300 - text.length())), i);
        }
        is("a text with a fault, of 24 clauses", Due.text(x, "strike z;".repeat(24) + "!"), NONE);
        is("text 3", Due.text(x, "strike y;" + "\n".repeat(291)), 3);
        is("strike again", x.played(0), 1);
        is("a is out: the first of 24", x.played(1), 0);
        is("back", x.comeBack(1), 1);
        is("all of 24", x.played(1), NONE);
        is("ties again", x.played(2), 1);
        is("all ties of h", x.of(7, 4), set("abcdefg"));
        is("one clause, and nothing of the text with a fault", x.played(3), NONE);
        is("y alone is out", x.about(7), 1 << 24);
        for (int i = 0; i < 15; i++) {
            x.feed(0x20202020, 0x20202020, 0x20202020, 0x20202020, 0x20202020);
        }
        is("a fifth of 300", x.text(), NONE);
        is("the tape stays", x.about(10), 300);
    }

    private static void everythingInAnImage() {
        says("V: AN IMAGE: all as it is (as full as can be)");
        LettersOnStrike x = lexicon();
        for (int i = 0; i < 10; i++) {
            x.contract(7 - i % 8);
        }
        for (int i = 0; i < 25; i++) {
            x.raise(i, 99);
            x.tie(25, i);
        }
        for (int i = 0; i < 4; i++) {
            x.party(set("b") << i);
            Due.text(x, "price " + i + ";");
        }
        for (int i = 0; i < 12; i++) {
            x.printed(23 - i, 30 - i, i % 2 == 0);
        }
        x.by(3);
        x.strike(Edges.ALL);
        String before = Edges.look(x);
        int[] due = {24, 8, 0, 17, 4, 3, 30, Edges.ALL, 4, 12, 8, 26};
        Due.tape(x, "price 9;");
        for (int what = 0; what < due.length; what++) {
            is("about(" + what + ")", x.about(what), due[what]);
        }
        is("image", x.image(), 0);
        for (int i = 0; i < 30; i++) {
            x.undo();
        }
        x.party(NONE);
        x.printed(NONE, 0, true);
        x.by(0);
        is("back", x.back(), 0);
        for (int what = 0; what < due.length; what++) {
            is("about(" + what + ")", x.about(what), due[what]);
        }
        Due.tape(x, "");
        Edges.unchanged(x, before);
        is("undo", x.undo(), 29);
        is("nobody is out", x.about(7), 0);
        is("the last contract", x.signed(9, 17), 6);
    }

    public static void main(String[] args) {
        words();
        sayings();
        plans();
        shares();
        puzzles();
        contracts();
        texts();
        everythingInAnImage();
        Due.end("FullEdgesTest");
    }
}
