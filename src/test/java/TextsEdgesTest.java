/** Term II, promises 5 to 9 and 16: each sentence about the tape, texts, laws and scripts that names an edge. */
public final class TextsEdgesTest {
    private static final int NONE = Edges.NONE;

    private static void says(String words) {
        Edges.says(words);
    }

    private static void is(String call, long got, long want) {
        Edges.is(call, got, want);
    }

    private static void is(String call, boolean got, boolean want) {
        Edges.is(call, got, want);
    }

    private static int set(String letters) {
        return Due.set(letters);
    }

    /** The text has this fault where ^ stands in it (left out of it). */
    private static void fault(int fault, String marked) {
        int place = marked.indexOf('^');
        String text = marked.substring(0, place) + marked.substring(place + 1);
        LettersOnStrike x = Edges.fresh();
        is("text '" + text + "'", Due.text(x, text), NONE);
        is("fault of '" + text + "'", x.fault(0), fault);
        is("place in '" + text + "'", x.fault(1), place);
    }

    private static void good(String text) {
        LettersOnStrike x = Edges.fresh();
        is("text '" + text + "'", Due.text(x, text), 0);
        is("fault of '" + text + "'", x.fault(0), 0);
        is("place in '" + text + "'", x.fault(1), NONE);
    }

    /** What a sum between 0 and 999 comes to as a price: day 3, 2 letters out, a word aab of sense 7 with 1 sign. */
    private static void price(String sum, int due) {
        LettersOnStrike x = Edges.fresh();
        Due.word(x, "aab", 7);
        x.saying(17);
        x.morning(3);
        x.strike(set("bz"));
        x.sign(1, 0);
        is("text of " + sum, Due.text(x, "price " + sum + ";"), 0);
        x.by(0);
        is("price " + sum, x.dear(0), due);
    }

    /** Whether all walk out by a condition. */
    private static void holds(String condition, boolean due) {
        LettersOnStrike x = Edges.fresh();
        is("text of " + condition, Due.text(x, "joins " + condition + ";"), 0);
        x.by(0);
        is("joins " + condition, x.of(0, 6), due ? 1 : 0);
    }

    private static int played(LettersOnStrike x, String text) {
        int number = Due.text(x, text);
        is("text '" + text + "'", number >= 0, true);
        return x.played(number);
    }

    // ---- the tape: promises 5 and 6

    private static void twentyBytes() {
        says("5: Twenty bytes come behind the tape, the highest of a first: how many it has");
        LettersOnStrike x = Edges.fresh();
        // "price 3;" and twelve blanks.
        is("feed", x.feed(0x70726963, 0x6520333b, 0x20202020, 0x0a0a0a0a, 0x20202020), 20);
        is("text", x.text(), 0);
        is("feed", x.feed(0x20202020, 0x20202020, 0x20202020, 0x20202020, 0x20202070), 20);
        is("feed", x.feed(0x72696365, 0x20343b20, 0x20202020, 0x20202020, 0x20202020), 40);
        is("text over two", x.text(), 1);
        is("feed a byte above 127", x.feed(0x20202020, 0x202020ff, 0, 0, 0), 20);
        is("text", x.text(), NONE);
        is("its place", x.fault(1), 7);
        is("feed one with the highest bit", x.feed(0xb0726963, 0, 0, 0, 0), 20);
        is("text", x.text(), NONE);
        is("its place", x.fault(1), 0);
    }

    private static void moreThan300() {
        says("5: NONE, and none come, if there would be more than 300");
        LettersOnStrike x = Edges.fresh();
        for (int i = 1; i <= 15; i++) {
            is("feed " + i, x.feed(0x20202020, 0x20202020, 0x20202020, 0x20202020, 0x20202020), 20 * i);
        }
        is("320", x.feed(0x21212121, 0, 0, 0, 0), NONE);
        is("300 are there", x.about(10), 300);
        is("end at 281", x.end(281), 281);
        is("301", x.feed(0x21212121, 0, 0, 0, 0), NONE);
        is("281 are there", x.about(10), 281);
        is("end at 280", x.end(280), 280);
        is("300", x.feed(0x20202020, 0x20202020, 0x20202020, 0x20202020, 0x20202020), 300);
        is("no ! came", x.text(), 0);
    }

    private static void firstBytes() {
        says("6: The tape has its first n bytes alone: n");
        LettersOnStrike x = Edges.fresh();
        is("0 of none", x.end(0), 0);
        Due.tape(x, "price 1;!");
        is("all", x.end(9), 9);
        is("8", x.end(8), 8);
        is("bytes", x.about(10), 8);
        is("8 again", x.end(8), 8);
        is("text", x.text(), 0);
        Due.tape(x, "price 2;");
        is("0", x.end(0), 0);
        is("bytes", x.about(10), 0);
        is("an empty text", x.text(), 1);
    }

    private static void notSoMany() {
        says("6: NONE, and nothing is done, if it has not so many, or n is below 0");
        LettersOnStrike x = Edges.busy();
        String before = Edges.look(x);
        int[] wrong = {9, 10, 300, 301, -1, -8, Edges.LEAST, Edges.MOST};
        for (int n : wrong) {
            is("end(" + n + ")", x.end(n), NONE);
        }
        Edges.unchanged(x, before);
        is("1 of none", Edges.fresh().end(1), NONE);
        is("text", x.text(), 2);
    }

    // ---- texts: promises 7 and 8

    private static void tapeIsAText() {
        says("7: The tape (empty then) is a TEXT: its number");
        LettersOnStrike x = Edges.fresh();
        for (int i = 0; i < 4; i++) {
            is("text " + i, Due.text(x, "price " + i + ";"), i);
            is("the tape is empty then", x.about(10), 0);
            is("texts", x.about(4), i + 1);
        }
    }

    private static void emptyText() {
        says("II: {CLAUSE}, 24 at most (none at all)");
        good("");
        good(" ");
        good("\n");
        good(" \n \n");
        LettersOnStrike x = Edges.fresh();
        is("text", x.text(), 0);
        is("rules", x.by(0), true);
        is("played: all is done", x.played(0), NONE);
        is("no steps", x.about(6), 0);
    }

    private static void faultyText() {
        says("7: NONE: it has a FAULT");
        LettersOnStrike x = Edges.fresh();
        is("text", Due.text(x, "strike a;back"), NONE);
        is("texts", x.about(4), 0);
        is("by it", x.by(0), false);
        is("played by it", x.played(0), -2);
        is("nobody is out", x.about(7), 0);
        is("the next one is 0", Due.text(x, "price 1;"), 0);
    }

    private static void nothingIsLeftOfAFaultyText() {
        says("7: NONE: it has a FAULT (nothing of it is in the next one)");
        LettersOnStrike x = Edges.fresh();
        Due.word(x, "a", 7);
        x.saying(17);
        for (int i = 0; i < 4; i++) {
            is("long", Due.text(x, "price 1" + "+1".repeat(146) + "!"), NONE);
            is("senses", Due.text(x, "say 1,2,3,4,5;say 6,7 word"), NONE);
            is("all laws", Due.text(x, "joins 1=1;returns 1=1;binds 1=2;price 5;tie"), NONE);
        }
        is("deeds", Due.text(x, "strike a;".repeat(24) + "walk"), NONE);
        is("the next one", Due.text(x, "say 8;say 9,0;price sense+" + "1+".repeat(120) + "0;"), 0);
        x.by(0);
        is("its price", x.dear(0), 127);
        is("it has no joins", x.of(0, 6), 0);
        is("played", x.played(0), NONE);
        is("nobody is out", x.about(7), 0);
        is("sayings", x.about(1), 3);
        is("senses of the first", x.ofSaying(1, 0), 1);
        is("its sense", x.ofSaying(1, 10), 8);
        is("senses of the second", x.ofSaying(2, 0), 2);
        x.contract(0);
        is("it has no binds", x.signed(0, 3), 1);
    }

    private static void fourTexts() {
        says("7: or (the tape stays) there are 4 (II: TEXTS 0 .. 3)");
        LettersOnStrike x = Edges.fresh();
        is("a fault", Due.text(x, "price 1"), NONE);
        for (int i = 0; i < 4; i++) {
            Due.text(x, "");
        }
        is("a fifth", Due.text(x, "price 7;"), NONE);
        is("the tape stays", x.about(10), 8);
        is("again", x.text(), NONE);
        is("the tape stays again", x.about(10), 8);
        is("texts", x.about(4), 4);
        is("it wasn't read", x.fault(0), 0);
        x.back();
        is("back: the tape stays", x.about(10), 8);
        is("now it is a text", x.text(), 0);
    }

    private static void threeHundredBytes() {
        says("II: TEXTS: of up to 300 bytes");
        good("price 1" + "+1".repeat(146) + ";");
        good("price 1;" + " ".repeat(292));
        good(" ".repeat(292) + "price 1;");
        fault(1, "price 1" + "+1".repeat(146) + " ^");
        fault(1, " ".repeat(299) + "^!");
        fault(1, "^" + "a".repeat(300));
        fault(1, "^" + "1".repeat(300));
        fault(1, "^" + ";".repeat(300));
        LettersOnStrike x = Edges.fresh();
        Due.word(x, "a", 1);
        x.saying(11);
        x.by(Due.text(x, "price 1" + "+1".repeat(146) + ";"));
        is("its price", x.dear(0), 147);
    }

    private static void latestFault() {
        says("8: Of the latest text that was read: 0 its FAULT (0 without), 1 its place (NONE without)");
        LettersOnStrike x = Edges.fresh();
        Due.text(x, "price wage;");
        is("5", x.fault(0), 5);
        is("at 6", x.fault(1), 6);
        Due.text(x, "walk");
        is("1", x.fault(0), 1);
        is("at 0", x.fault(1), 0);
        Due.text(x, "");
        is("none", x.fault(0), 0);
        is("no place", x.fault(1), NONE);
        Due.text(x, "say 10;");
        is("2", x.fault(0), 2);
        x.back();
        is("though back", x.fault(0), 2);
        is("its place", x.fault(1), 4);
    }

    private static void faultOfOthers() {
        says("8: NONE for others, and ahead of any");
        LettersOnStrike x = Edges.fresh();
        int[] whats = {0, 1, 2, -1, Edges.LEAST, Edges.MOST};
        for (int what : whats) {
            is("ahead of any: fault(" + what + ")", x.fault(what), NONE);
        }
        Due.tape(x, "walk");
        is("fed, but not read", x.fault(0), NONE);
        x.text();
        int[] others = {2, 3, -1, -2, Edges.LEAST, Edges.MOST};
        for (int what : others) {
            is("fault(" + what + ")", x.fault(what), NONE);
        }
        is("fault(0)", x.fault(0), 1);
    }

    private static void byATextOrNone() {
        says("9: THE TEXT (NONE: none): true. False for others");
        LettersOnStrike x = Edges.busy();
        String before = Edges.look(x);
        int[] wrong = {2, 3, 4, -2, Edges.LEAST, Edges.MOST};
        for (int text : wrong) {
            is("by(" + text + ")", x.by(text), false);
        }
        Edges.unchanged(x, before);
        is("0", x.by(0), true);
        is("0 rules", x.about(5), 0);
        is("0 again", x.by(0), true);
        is("1", x.by(1), true);
        is("none", x.by(NONE), true);
        is("none rules", x.about(5), NONE);
        is("none again", x.by(NONE), true);
        is("none of none", Edges.fresh().by(NONE), true);
        is("0 of none", Edges.fresh().by(0), false);
    }

    // ---- tokens

    private static void blanks() {
        says("II: TOKENS, blanks (32, 10) aside");
        good("price 1;");
        good("price\n1\n;\n");
        good("  price  1  ;  ");
        good("price(1);");
        int[] others = {0, 1, 8, 9, 11, 12, 13, 31, 33, 127, 128, 160, 255};
        for (int b : others) {
            fault(1, "price 1^" + (char) b + ";");
            fault(1, "^" + (char) b + "price 1;");
        }
    }

    private static void letterTokens() {
        says("II: letters a .. z, A .. Z one behind the other (one TOKEN)");
        fault(1, "^pricelength;");
        fault(1, "^Price 1;");
        fault(1, "^PRICE 1;");
        fault(7, "strike ^aZ;");
        fault(7, "strike ^Az;");
        fault(1, "strike a^@;");
        fault(1, "strike a^[;");
        fault(1, "strike a^`;");
        fault(1, "strike a^{;");
        fault(1, "strike z^_;");
        fault(1, "strike a^1;");
        fault(1, "strike a ^b;");
        fault(1, "price length ^sense;");
        good("strike az;");
        good("price 1*length;");
    }

    private static void numberTokens() {
        says("II: digits likewise (NUMBERS, 0 .. 9999)");
        price("0", 0);
        price("0999", 999);
        price("000000000000000000000000000000000000000012", 12);
        price("9999-9998", 1);
        fault(2, "price ^10000;");
        fault(2, "price ^010000;");
        fault(2, "price ^4294967297;");
        fault(2, "price ^18446744073709551617;");
        fault(2, "price ^" + "9".repeat(200) + ";");
        fault(1, "price 1 ^2;");
        fault(1, "price 1^:;");
        fault(1, "price 1^a;");
        fault(1, "price 1^.5;");
        good("say 09,00000000000000000000001;");
    }

    private static void theLongest() {
        says("II: <= >= < > = # + - * / ( ) , ; (the longest)");
        holds("1<=1", true);
        holds("2<=1", false);
        holds("1<=2", true);
        holds("1>=1", true);
        holds("1>=2", false);
        holds("2>=1", true);
        holds("1<1", false);
        holds("1<2", true);
        holds("1>1", false);
        holds("2>1", true);
        holds("1=1", true);
        holds("1=2", false);
        holds("1#1", false);
        holds("1#2", true);
        fault(1, "joins 1< ^=1;");
        fault(1, "joins 1>\n^=1;");
        fault(1, "joins 1=^<1;");
        fault(1, "joins 1<^>1;");
        fault(1, "joins 1<=^=1;");
        fault(1, "joins 1>=^>1;");
        fault(1, "joins 1#^=1;");
        fault(1, "joins 1^!=1;");
        fault(1, "joins 1<^");
        fault(1, "joins 1<=^");
        // Numbers that are the bytes of these signs.
        int[] bytes = {60, 61, 62, 35, 60 + 256, 62 + 256};
        for (int b : bytes) {
            fault(1, "joins 1 ^" + b + " 1;");
        }
        int[] more = {43, 45, 42, 47, 41, 44, 59};
        for (int b : more) {
            fault(1, "price 1 ^" + b + " 1;");
        }
    }

    // ---- faults

    private static void faultOfTheEnd() {
        says("II: of the end at the length");
        fault(1, "price^");
        fault(1, "price 1^");
        fault(1, "price 1 \n ^");
        fault(1, "price (1^");
        fault(1, "joins 1^");
        fault(1, "joins not^");
        fault(1, "joins 1=1 and ^");
        fault(1, "say 1,^");
        fault(1, "sign a as^");
        fault(1, "word^");
        fault(1, "price 1;tie a to ^");
    }

    private static void cantStandThere() {
        says("II: 1 it can't stand there, or is none");
        fault(1, "^5;");
        fault(1, "^;");
        fault(1, "price 1;^;");
        fault(1, "^means;");
        fault(1, "^length;");
        fault(1, "price ^;");
        fault(1, "price ^joins;");
        fault(1, "price ^lengths;");
        fault(1, "price 1^(2);");
        fault(1, "price (1^;");
        fault(1, "price 1^);");
        fault(1, "price 1^,2;");
        fault(1, "price 1^<2;");
        fault(1, "price ^not 1=1;");
        fault(1, "joins (1^=1);");
        fault(1, "joins 1^;");
        fault(1, "joins 1=1 ^not 1=1;");
        fault(1, "joins 1=1^=1;");
        fault(1, "joins ^and 1=1;");
        fault(1, "joins 1=^and 1=1;");
        fault(1, "joins 1=^or 1=1;");
        fault(1, "joins 1=1 and ^or 1=1;");
        fault(1, "say ^,1;");
        fault(1, "say 1 , ^;");
        fault(1, "raise a by ^-1;");
        fault(1, "morning ^a;");
        fault(1, "contract ^(1);");
        fault(1, "strike a^,b;");
        fault(1, "sign a as ^one;");
        fault(1, "sign a as ^nones;");
        fault(1, "tie a ^and b;");
        fault(1, "word a ^mean 1;");
    }

    private static void ofOneTheLeast() {
        says("II: of one the least");
        // A 9th sense that is none, or above 9.
        fault(1, "say 1,2,3,4,5,6,7,8,^a;");
        fault(2, "say 1,2,3,4,5,6,7,8,^10;");
        fault(2, "say 1,2,3,4,5,6,7,8,^10000;");
        fault(8, "say 1,2,3,4,5,6,7,8,^9;");
        // A 25th clause that is none, or a law for the second time.
        fault(1, "back a;".repeat(24) + "^walk;");
        fault(1, "back a;".repeat(24) + "^;");
        fault(4, "price 1;" + "back a;".repeat(23) + "^price 1;");
        fault(6, "price 1;" + "back a;".repeat(23) + "^joins 1=1;");
        // A 9th that can't stand there.
        fault(1, "price ((((((((^not 1");
        fault(1, "price ((((((((1^(");
        fault(1, "price ((((((((^,");
        // A number above 9999 where none can stand.
        fault(1, "strike ^10000;");
        fault(1, "price 1 ^10000;");
        fault(1, "tie a ^10000;");
        // Letters with A .. Z where none can stand, or as a name.
        fault(1, "strike a ^B;");
        fault(1, "price ^Day;");
        fault(1, "price ^abcdefghijkl;");
        fault(1, "^Abcdefghijkl;");
        // More than eight, with one of A .. Z: 7 both ways.
        fault(7, "strike ^abcdefghI;");
    }

    private static void firstAsTheyAreComeTo() {
        says("II: FAULTS, the first as TOKENS are come to, at the TOKEN's first byte");
        fault(2, "say ^10,11;");
        fault(5, "price ^wage+broken;");
        fault(7, "tie ^A to B;");
        fault(1, "price 1 ^! walk");
        fault(2, "raise a by ^100 !");
        fault(1, "^walk 10000 !");
        fault(1, "strike ^10 Abc");
        fault(4, "price 1;^price wage;");
        fault(1, "price 1;^pric 2");
    }

    private static void numbersThatAreNoneOfThose() {
        says("II: 2 a NUMBER that isn't one of those told");
        fault(2, "joins 1=^10000;");
        good("joins 1=9999;");
        fault(2, "word a means ^10;");
        fault(2, "word a means ^9999;");
        good("word a means 9;");
        good("word a means 0;");
        fault(2, "say ^10;");
        fault(2, "say 9,^10;");
        good("say 9;say 0;");
        fault(2, "sign a as ^10;");
        good("sign a as 9;sign a as 0;");
        fault(2, "raise a by ^0;");
        fault(2, "raise a by ^100;");
        good("raise a by 1;raise a by 99;");
        fault(2, "contract ^8;");
        good("contract 7;contract 0;");
        fault(2, "morning ^0;");
        fault(2, "morning ^100;");
        good("morning 1;morning 99;");
        fault(2, "morning ^10000;");
    }

    private static void ninthOpen() {
        says("II: 3 the 9th of ( not and - (of one ONE) that are open around one another (at it)");
        good("price ((((((((1))))))));");
        fault(3, "price ((((((((^(1)))))))));");
        good("price --------1;");
        fault(3, "price --------^-1;");
        good("joins not not not not not not not not 1=1;");
        fault(3, "joins not not not not not not not not ^not 1=1;");
        good("joins not not -(-(-1))=-(-(-(1)));");
        good("joins not not not not (-(-1))=1;");
        fault(3, "joins not not not not (-(-^-1))=1;");
        fault(3, "joins not not not not 1=(-(-^(1)));");
        fault(3, "joins not not not not not not not not 1+^-1=1;");
        // Those that are closed again are open no more; a - between two is none of them.
        good("price ((((((((1))))))))+((((((((1))))))));");
        good("price -1-1-1-1-1-1-1-1-1-1-1-1;");
        good("price --------1*--------1;");
        good("joins not 1=1 and not 1=1 and not 1=1 and not 1=1 and not 1=1 and not 1=1 and not 1=1 and not 1=1 and "
            + "not 1=1;");
        good("joins not not not not not not not not 1=1 or ((((((((1))))))))=1;");
        good("price ((((((((1-1))))))));");
    }

    private static void secondTime() {
        says("II: 4 joins, returns, price, binds for the second time (at it; each once)");
        good("joins 1=1;returns 1=1;price 1;binds 1=1;");
        fault(4, "joins 1=1;^joins 1=1;");
        fault(4, "returns 1=1;^returns 1=1;");
        fault(4, "price 1;^price 1;");
        fault(4, "binds 1=1;^binds 1=1;");
        fault(4, "binds 1=1;price 1;returns 1=1;joins 1=1;strike a; ^returns");
        good("strike a;strike a;say 1;say 1;word a means 1;word a means 1;");
    }

    private static void namesOfClauses() {
        says("II: 5 a NAME that isn't of that CLAUSE (at it)");
        String[] moving = {"letter", "wage", "since", "vowel", "tied", "uses"};
        String[] pricing = {"length", "sense", "signs"};
        String[] binding = {"broken", "many", "days"};
        String[] all = {"day", "outs"};
        for (String name : all) {
            good("joins " + name + "=1;returns " + name + "=1;price " + name + ";binds " + name + "=1;");
        }
        for (String name : moving) {
            good("joins " + name + "=1;returns 1=" + name + ";");
            fault(5, "price ^" + name + ";");
            fault(5, "binds ^" + name + "=1;");
        }
        for (String name : pricing) {
            good("price " + name + ";");
            fault(5, "joins ^" + name + "=1;");
            fault(5, "returns 1=^" + name + ";");
            fault(5, "binds 1<^" + name + ";");
        }
        for (String name : binding) {
            good("binds " + name + "=1;");
            fault(5, "joins -^" + name + "=1;");
            fault(5, "returns (^" + name + ")=1;");
            fault(5, "price 1*^" + name + ";");
        }
    }

    private static void twentyFiveClauses() {
        says("II: 6 the 25th CLAUSE (at its first TOKEN; 24 at most)");
        good("back a;".repeat(24));
        good("back a;".repeat(20) + "joins 1=1;returns 1=1;price 1;binds 1=1;");
        fault(6, "back a;".repeat(24) + "^back a;");
        fault(6, "back a;".repeat(24) + " \n^say");
        fault(6, "say 1;".repeat(23) + "price 1;^binds 1=1;");
        good("back a;".repeat(24) + " \n");
    }

    private static void wrongLetters() {
        says("II: 7 LETTERS with one of A .. Z, or more than 8 (at it)");
        String[] clauses = {"strike @;", "back @;", "tie @ to a;", "tie a to @;", "raise @ by 1;", "sign @ as 1;",
            "sign @ as none;", "word @ means 1;"};
        for (String clause : clauses) {
            good(clause.replace("@", "a"));
            good(clause.replace("@", "abcdefgz"));
            fault(7, clause.replace("@", "^abcdefghz"));
            fault(7, clause.replace("@", "^A"));
            fault(7, clause.replace("@", "^aZ"));
            fault(7, clause.replace("@", "^aMz"));
        }
    }

    private static void eachLetterCountsOnce() {
        says("II: LETTERS: 8 at most (each of them counts once, but in a WORD)");
        good("word aaaaaaaa means 1;");
        good("strike abcdefgha;");
        good("tie aaaaaaaaa to hgfedcbabcdefgh;");
        fault(7, "strike ^abcdefghai;");
        fault(7, "word ^aaaaaaaaa means 1;");
        LettersOnStrike x = Edges.fresh();
        is("played", played(x, "word aabab means 1;raise aa by 5;sign bb as 2;strike ccac;tie dd to eede;"), NONE);
        is("letters of the word", x.ofWord(0, 0), 5);
        is("wage of a: raised once", x.of(0, 0), 6);
        is("a and c are out", x.about(7), 5);
        is("a step each: raise, sign, strike", x.about(6), 3);
        is("ties of d", x.of(3, 4), 16);
    }

    private static void ninthSense() {
        says("II: 8 the 9th SENSE of one say (at it; SENSES, 8 at most)");
        good("say 1,2,3,4,5,6,7,8;");
        fault(8, "say 1,2,3,4,5,6,7,8,^9;");
        fault(8, "say 0,0,0,0,0,0,0,0, ^0,");
        good("say 1,2,3,4;say 5,6,7,8,9;");
        LettersOnStrike x = Edges.fresh();
        is("played", played(x, "say 1,2,3,4,5,6,7,8;say 0;"), NONE);
        is("how many", x.ofSaying(0, 0), 8);
        is("the last", x.ofSaying(0, 17), 8);
        is("of the other one", x.ofSaying(1, 0), 1);
    }

    // ---- what laws come to

    private static void orAndNot() {
        says("II: EITHER: BOTH {or BOTH}. BOTH: ASK {and ASK}. ASK: not ASK, or SUM one of .. SUM");
        String yes = "1=1";
        String no = "1=2";
        holds(yes + " or " + no, true);
        holds(no + " or " + yes, true);
        holds(no + " or " + no, false);
        holds(yes + " and " + no, false);
        holds(no + " and " + yes, false);
        holds(yes + " and " + yes, true);
        holds(yes + " or " + yes + " and " + no, true);
        holds(no + " and " + no + " or " + yes, true);
        holds(no + " and " + yes + " or " + no, false);
        holds(no + " or " + no + " or " + yes, true);
        holds(yes + " or " + no + " or " + no, true);
        holds(no + " or " + yes + " and " + yes, true);
        holds(yes + " and " + yes + " and " + no, false);
        holds("not " + yes, false);
        holds("not " + no, true);
        holds("not not " + yes, true);
        holds("not " + yes + " or " + yes, true);
        holds("not " + no + " and " + no, false);
        holds(no + " or not " + no, true);
        holds("not " + no + " and not " + no, true);
        holds("not not not not not not not not " + yes, true);
        holds("not not not not not not not " + yes, false);
        String[] true1 = {"1<2", "1<=1", "1<=2", "2>1", "2>=1", "2>=2", "1=1", "1#2"};
        for (String one : true1) {
            holds(one, true);
            holds("not " + one, false);
            for (String other : true1) {
                holds(one + " and " + other, true);
                holds(one + " or " + other, true);
                holds("not " + one + " or not " + other, false);
            }
        }
    }

    private static void fromTheLeft() {
        says("II: From the left");
        price("10-3-2", 5);
        price("10-3+2", 9);
        price("100/10/2", 5);
        price("100/10*2", 20);
        price("7/2*2", 6);
        price("7*2/4", 3);
        price("2+3*4", 14);
        price("20-12/4", 17);
        price("(2+3)*4", 20);
        price("2*(3+4)-(5-(2-1))", 10);
        price("1--1", 2);
        price("0-2*-3", 6);
        price("-2*-3", 6);
        price("--3", 3);
        price("-(2-5)", 3);
        price("10--(2-5)", 7);
        price("---3+10", 7);
    }

    private static void cutsTowardsZero() {
        says("II: / cuts towards 0, by 0 it is 0");
        price("7/2", 3);
        price("-7/2+10", 7);
        price("7/-2+10", 7);
        price("-7/-2", 3);
        price("1/2", 0);
        price("-1/2+5", 5);
        price("6/3", 2);
        price("-6/3+5", 3);
        price("5/0+7", 7);
        price("0/0+7", 7);
        price("-5/0+7", 7);
        price("5/(2-2)+7", 7);
        price("(0-1000*1000)/-1-1000*999", 999);
    }

    private static void atMostAMillion() {
        says("II: what is above 1000000 (below the same less) is that, at each step");
        price("9999*9999-1000*1000+5", 5);
        price("9999*9999-1000*999", 999);
        price("1000*1000+9-1000*1000+5", 5);
        price("1000*1000-1000*999-1", 999);
        price("9999*9999/9999", 100);
        price("-9999*9999+1000*1000+5", 5);
        price("0-1000*1000-9+1000*1000+5", 5);
        price("-1000*1000+1000*999+1000+7", 7);
        price("-9999*9999/-9999", 100);
        price("(1000*1000+1000*1000)/2000", 500);
        price("9999*9999*9999*9999-1000*1000+1", 1);
        price("1000*1000*-1+1000*1000+3", 3);
        holds("9999*9999=1000*1000", true);
        holds("1000*1000-1<1000*1000", true);
        holds("-9999*9999=-1000*1000-1", true);
        holds("1000*1000+1>1000*1000", false);
    }

    private static void namesOfPrices() {
        says("II: NAMES: day, outs in all; length, sense, signs (of its LETTERS how many are written as SIGNS) in price");
        price("day", 3);
        price("outs", 2);
        price("length", 3);
        price("sense", 7);
        price("signs", 1);
        LettersOnStrike x = Edges.fresh();
        Due.word(x, "aab", 0);
        x.saying(10);
        x.by(Due.text(x, "price signs*100+outs*10+sense;"));
        is("nobody out", x.dear(0), 0);
        x.sign(0, 5);
        is("a sign alone", x.dear(0), 0);
        x.strike(1);
        is("a is out, at two places", x.dear(0), 210);
        x.sign(1, 5);
        x.strike(2);
        is("b, too", x.dear(0), 320);
    }

    private static void namesOfMoves() {
        says("II: NAMES: letter, wage, since, vowel (1, 0), tied, uses in joins, returns");
        String[] names = {"letter=3", "wage=42", "since=2", "vowel=0", "tied=1", "uses=2", "day=2", "outs=2"};
        String[] unlike = {"letter#3", "wage#42", "since#2", "vowel#0", "tied#1", "uses#2", "day#2", "outs#2"};
        for (int i = 0; i < names.length; i++) {
            LettersOnStrike x = Edges.fresh();
            Due.word(x, "dad", 1);
            Due.word(x, "do", 1);
            Due.word(x, "so", 1);
            x.tie(3, 4);
            x.tie(3, 5);
            x.raise(3, 42);
            x.morning(2);
            x.strike(set("ez"));
            Due.text(x, "joins " + names[i] + ";returns 1=2;");
            Due.text(x, "joins " + unlike[i] + ";");
            x.by(0);
            is("d by " + names[i], x.of(3, 6), 1);
            x.by(1);
            is("d by " + unlike[i], x.of(3, 6), 0);
            x.strike(set("d"));
            x.by(0);
            is("returns by 1=2", x.of(3, 6), 0);
            x.by(Due.text(x, "returns " + names[i].replace("since=2", "since=0").replace("outs=2", "outs=3") + ";"));
            is("d out, by " + names[i], x.of(3, 6), 1);
        }
    }

    private static void namesOfContracts() {
        says("II: NAMES: broken, many (how many WORDS it has), days (since it was SIGNED) in binds");
        String[] right = {"broken=2", "many=3", "days=4", "day=6", "outs=1"};
        for (String condition : right) {
            LettersOnStrike x = Edges.fresh();
            Due.word(x, "tea", 1);
            Due.word(x, "ox", 2);
            x.saying(1121);
            x.morning(2);
            x.contract(0);
            x.morning(4);
            x.strike(set("t"));
            x.by(Due.text(x, "binds " + condition + ";"));
            is("binds " + condition, x.signed(0, 3), 1);
            x.by(Due.text(x, "binds not " + condition + ";"));
            is("binds not " + condition, x.signed(0, 3), 0);
        }
        LettersOnStrike y = Edges.fresh();
        Due.word(y, "a", 1);
        y.saying(11);
        Edges.until(y, 600);
        y.contract(0);
        y.by(Due.text(y, "binds days=0 and many=1;"));
        is("on its day", y.signed(0, 3), 1);
        y.morning(1);
        is("a day later", y.signed(0, 3), 0);
    }

    private static void theTextRules() {
        says("II: THE TEXT (told; at first none) rules");
        LettersOnStrike x = Edges.fresh();
        Due.text(x, "joins 1=1;");
        is("told, but it doesn't rule", x.morning(1), 0);
        x.by(0);
        is("it rules", x.morning(1), 26);
        x.by(NONE);
        x.comeBack(Edges.ALL);
        is("none rules", x.morning(1), 0);
    }

    // ---- playing: promise 16

    private static void playedOthers() {
        says("16: -2 for others");
        LettersOnStrike x = Edges.busy();
        String before = Edges.look(x);
        int[] wrong = {2, 3, 4, -1, -2, Edges.LEAST, Edges.MOST};
        for (int text : wrong) {
            is("played(" + text + ")", x.played(text), -2);
        }
        Edges.unchanged(x, before);
        is("none told", Edges.fresh().played(0), -2);
    }

    private static void allIsDone() {
        says("16: PLAYED by a TEXT: NONE: all is done (II: its CLAUSES but laws)");
        LettersOnStrike x = Edges.fresh();
        is("laws alone", played(x, "joins 1=1;returns 1=1;price 1;binds 1=1;"), NONE);
        is("nothing was done", x.about(6), 0);
        is("they don't rule by that", x.about(5), NONE);
        is("a deed between laws", played(x, "joins 1=1;strike a;returns 1=1;"), NONE);
        is("a is out", x.about(7), 1);
    }

    private static void numberAmongAll() {
        says("II: one that can't be ends it: its number among all CLAUSES (from 0); what was done stays");
        LettersOnStrike x = Edges.fresh();
        is("the first", played(x, "back a;strike b;"), 0);
        is("what is behind it isn't done", x.about(7), 0);
        is("laws are counted", played(x, "price 1;joins 1=1;strike c;back a;strike d;"), 3);
        is("c stays out, d isn't", x.about(7), 4);
        is("the last of 24", played(x, "strike a;back a;".repeat(11) + "price 1;back a;"), 23);
        is("steps", x.about(6), 23);
    }

    private static void mornings() {
        says("II: of so many MORNINGS those that can are done");
        LettersOnStrike x = Edges.fresh();
        Edges.until(x, 950);
        Due.text(x, "morning 49;");
        Due.text(x, "price 1;morning 50;");
        Due.text(x, "morning 1;");
        is("50 from day 950", x.played(1), 1);
        is("49 are done", x.about(2), 999);
        is("since", x.of(0, 1), 999);
        is("steps", x.about(6), 30);
        is("none can", x.played(2), 0);
        is("day", x.about(2), 999);
        x.undo();
        is("1 from day 998", x.played(2), NONE);
        LettersOnStrike y = Edges.fresh();
        Edges.until(y, 950);
        is("49 from day 950", played(y, "morning 49;"), NONE);
        is("day", y.about(2), 999);
        LettersOnStrike z = Edges.fresh();
        is("a step each", played(z, "morning 7;"), NONE);
        is("steps", z.about(6), 7);
    }

    private static void toldOrTooMany() {
        says("16: the number of the CLAUSE that can't be (told already, too many)");
        LettersOnStrike x = Edges.fresh();
        is("a word told already", played(x, "word a means 1;word b means 1;word a means 2;"), 2);
        is("words", x.about(0), 2);
        is("nine sayings", played(x, "say 1;".repeat(9)), 8);
        is("sayings", x.about(1), 8);
        is("eleven contracts", played(x, "contract 0;".repeat(11)), 10);
        is("contracts", x.signed(NONE, 0), 10);
        LettersOnStrike y = Edges.fresh();
        for (int i = 0; i < 23; i++) {
            Due.word(y, "" + (char) ('a' + i), 0);
        }
        is("a 25th word", played(y, "word y means 0;word z means 0;"), 1);
        is("words", y.about(0), 24);
    }

    private static void changesNothing() {
        says("16: strike, back, raise, sign: if it changes nothing");
        is("strike", played(Edges.fresh(), "strike ab;strike abc;strike ac;"), 2);
        is("back", played(Edges.fresh(), "strike abc;back ad;back ab;back abd;"), 3);
        is("raise at 99", played(Edges.fresh(), "raise ab by 98;raise abc by 1;raise ab by 99;"), 2);
        is("sign", played(Edges.fresh(), "sign ab as 1;sign abc as 1;sign ac as 1;"), 2);
        is("sign as none", played(Edges.fresh(), "sign a as 0;sign ab as none;sign ab as none;"), 2);
        is("the first of two is raised", played(Edges.fresh(), "raise b by 99;raise ab by 98;raise ab by 1;"), 2);
        is("the first of two has another sign", played(Edges.fresh(), "sign b as 1;sign ab as 1;sign ab as 1;"), 2);
        is("the last of two has another sign", played(Edges.fresh(), "sign a as 1;sign ab as 1;sign ab as 1;"), 2);
        LettersOnStrike x = Edges.fresh();
        is("one of two is at 99", played(x, "raise a by 99;raise ab by 98;raise b by 1;"), 2);
        is("wage of a: 99 at most", x.of(0, 0), 99);
        is("wage of b", x.of(1, 0), 99);
        is("steps", x.about(6), 2);
    }

    private static void raisedByAtMost99() {
        says("II: raise LETTERS by NUMBER (each of them, from a on, by 1 .. 99, 99 at most; a STEP each)");
        LettersOnStrike x = Edges.fresh();
        x.raise(0, 0);
        x.raise(1, 0);
        x.raise(2, 50);
        is("played", played(x, "raise cab by 99;"), NONE);
        is("a: 0 and 99", x.of(0, 0), 99);
        is("b: 0 and 99", x.of(1, 0), 99);
        is("c: 99 at most", x.of(2, 0), 99);
        is("steps", x.about(6), 6);
        is("undo", x.undo(), 5);
        is("c was the last", x.of(2, 0), 50);
        is("b wasn't", x.of(1, 0), 99);
        x.undo();
        is("then b", x.of(1, 0), 0);
        is("a was the first", x.of(0, 0), 99);
    }

    private static void signedFromAOn() {
        says("II: sign LETTERS as NUMBER ; (0 .. 9, each from a on, a STEP each) or sign LETTERS as none");
        LettersOnStrike x = Edges.fresh();
        is("played", played(x, "sign zba as 0;"), NONE);
        is("steps", x.about(6), 3);
        x.undo();
        is("z was the last", x.of(25, 3), NONE);
        is("b has it", x.of(1, 3), 0);
        x.undo();
        is("then b", x.of(1, 3), NONE);
        is("a was the first", x.of(0, 3), 0);
        is("only those that have another one", played(x, "sign abz as 9;sign za as none;"), NONE);
        is("steps", x.about(6), 6);
        is("b", x.of(1, 3), 9);
        is("z", x.of(25, 3), NONE);
    }

    private static void struckIsOneStep() {
        says("II: strike LETTERS ; or back LETTERS (as by hand)");
        LettersOnStrike x = Edges.fresh();
        x.morning(2);
        is("played", played(x, "strike zab;back bz;"), NONE);
        is("a is out", x.about(7), 1);
        is("a step each", x.about(6), 4);
        is("since", x.of(1, 1), 0);
        x.undo();
        is("all three were out", x.about(11), 3);
        x.undo();
        is("all three at once", x.about(11), 0);
    }

    private static void tieIfAllAreThere() {
        says("16: tie: if all are there (II: each of the first to each of the second, but itself)");
        LettersOnStrike x = Edges.fresh();
        is("abc to abc", played(x, "tie abc to abc;tie ab to cab;tie z to z;"), 1);
        is("a", x.of(0, 4), set("bc"));
        is("b", x.of(1, 4), set("ac"));
        is("c", x.of(2, 4), set("ab"));
        is("one of many is new", played(x, "tie abc to abcz;tie z to abcz;tie cz to a;"), 2);
        is("itself alone", played(x, "tie z to z;"), 0);
        is("the first of two is new", played(Edges.fresh(), "tie b to c;tie ab to c;tie ab to c;"), 2);
        is("the last of two is new", played(Edges.fresh(), "tie a to c;tie ab to c;tie ab to c;"), 2);
        is("no step", x.about(6), 0);
    }

    private static void contractThatCantBe() {
        says("16: the number of the CLAUSE that can't be (a contract that isn't told, or can't be SAID)");
        LettersOnStrike x = Edges.pantry();
        is("not told", played(x, "contract 3;"), 0);
        is("can't be said", played(x, "contract 1;contract 2;"), 1);
        is("not now", played(x, "strike a;contract 0;"), 1);
        is("one is signed", x.signed(NONE, 0), 1);
        is("by a sign", played(x, "sign a as 3;contract 0;"), NONE);
        is("two are signed", x.signed(NONE, 0), 2);
    }

    public static void main(String[] args) {
        twentyBytes();
        moreThan300();
        firstBytes();
        notSoMany();
        tapeIsAText();
        emptyText();
        faultyText();
        nothingIsLeftOfAFaultyText();
        fourTexts();
        threeHundredBytes();
        latestFault();
        faultOfOthers();
        byATextOrNone();
        blanks();
        letterTokens();
        numberTokens();
        theLongest();
        faultOfTheEnd();
        cantStandThere();
        ofOneTheLeast();
        firstAsTheyAreComeTo();
        numbersThatAreNoneOfThose();
        ninthOpen();
        secondTime();
        namesOfClauses();
        twentyFiveClauses();
        wrongLetters();
        eachLetterCountsOnce();
        ninthSense();
        orAndNot();
        fromTheLeft();
        cutsTowardsZero();
        atMostAMillion();
        namesOfPrices();
        namesOfMoves();
        namesOfContracts();
        theTextRules();
        playedOthers();
        allIsDone();
        numberAmongAll();
        mornings();
        toldOrTooMany();
        changesNothing();
        raisedByAtMost99();
        signedFromAOn();
        struckIsOneStep();
        tieIfAllAreThere();
        contractThatCantBe();
        Due.end("TextsEdgesTest");
    }
}
