/** Which texts are texts, and where the others have which fault (promises 7 and 8). */
public final class FaultsTest {
    private static final String OPEN8 = "((((((((";
    private static final String CLOSE8 = "))))))))";

    private static void faulty(String text, int fault, int place) {
        LettersOnStrike x = new LettersOnStrike();
        Due.due("text of '" + text + "'", Due.text(x, text), LettersOnStrike.NONE);
        Due.due("fault of '" + text + "'", x.fault(0), fault);
        Due.due("place in '" + text + "'", x.fault(1), place);
        Due.due("texts behind '" + text + "'", x.about(4), 0);
    }

    /** The fault is to be where ^ stands in the text (left out of it). */
    private static void at(int fault, String marked) {
        int place = marked.indexOf('^');
        faulty(marked.substring(0, place) + marked.substring(place + 1), fault, place);
    }

    private static void good(String text) {
        LettersOnStrike x = new LettersOnStrike();
        Due.due("text of '" + text + "'", Due.text(x, text), 0);
        Due.due("fault of '" + text + "'", x.fault(0), 0);
        Due.due("place in '" + text + "'", x.fault(1), LettersOnStrike.NONE);
        Due.due("texts behind '" + text + "'", x.about(4), 1);
    }

    private static void goodTexts() {
        good("");
        good(" \n  ");
        good("joins day<1 and outs<=2 or not letter>3 and wage>=4 or since=5 and vowel#6;");
        good("returns tied<1 or uses>1 and not not day=1;");
        good("price length*sense-signs/day+outs;");
        good("binds broken=0 or many<days and day<outs;");
        good("price-1;");
        good("price---1*-2;");
        good("price 0000000000000000000000000001;");
        good("price 9999;");
        good("joins 1<=2;returns 1<2;price 1;binds 1>=2;");
        good("word word means 0;say 9;say 0,1,2,3,4,5,6,7;tie by to as;strike not;back or;");
        good("raise abcdefgh by 99;raise a by 1;sign none as none;sign a as 0;sign a as 9;");
        good("contract 0;contract 7;morning 1;morning 99;");
        good("\nstrike\na\n;\nback b ; ");
        good("say1,2;strike a;contract 1 ;");
        good("price " + OPEN8 + "1" + CLOSE8 + ";");
        good("price " + OPEN8 + "1" + CLOSE8 + "+" + OPEN8 + "1" + CLOSE8 + ";");
        good("joins not not not not not not not not 1=1 and not not not not not not not not 1=1;");
        good("joins not not not not -(-(1))=1;");
        good("price --------1;");
        good("price -1+-1+-1+-1+-1+-1+-1+-1+-1+-1;");
        good("back a;".repeat(24));
        // Told twice counts once, but in a word.
        good("strike aaaaaaaaaaaa;");
        good("tie aabbccddee to zzzzzzzzz;");
    }

    private static void misplaced() {
        at(1, "^walk a;");
        at(1, "^;");
        at(1, "^5;");
        at(1, "^Joins 1=1;");
        at(1, "^joinsx 1=1;");
        at(1, "^means 1;");
        at(1, "^day 1;");
        at(1, "joins ^;");
        at(1, "joins 1^;");
        at(1, "joins 1=^;");
        at(1, "joins 1=1^,");
        at(1, "joins 1=1=^1;".replace("=^", "^="));
        at(1, "joins 1<^=2;".replace("<^=", "< ^="));
        at(1, "joins 1=^=2;");
        at(1, "joins 1=1 and ^;");
        at(1, "joins 1=1 or ^and 1=1;");
        at(1, "joins (1=1^);".replace("(1=1^", "(1^=1"));
        at(1, "joins 1 ^not=1;");
        at(1, "joins 1=^not 1=1;");
        at(1, "joins (^not 1=1);");
        at(1, "joins ^or 1=1;");
        at(1, "price 1^=1;");
        at(1, "price 1^);");
        at(1, "price (1^;");
        at(1, "price (^);");
        at(1, "price 1 ^2;");
        at(1, "price 1+^;");
        at(1, "price 1*^*2;");
        at(1, "price ^*2;");
        at(1, "price ^+2;");
        at(1, "price ^foo;");
        at(1, "price ^Length;");
        at(1, "price ^price;");
        at(1, "price 1^ and 2;".replace("^ a", " ^a"));
        at(1, "price length^ wage;".replace("^ w", " ^w"));
        at(1, "price 1 ^10000;");
        at(1, "price 1;^!");
        at(1, "price^\t1;");
        at(1, "price 1^\r;");
        at(1, "price 1^" + (char) 0 + ";");
        at(1, "price 1^" + (char) 255 + ";");
        at(1, "price ^_;");
        at(1, "strike a^");
        at(1, "strike a  \n ^");
        at(1, "strike^");
        at(1, "strike ^;");
        at(1, "strike ^5;");
        at(1, "strike a ^b;");
        at(1, "strike a^5;");
        at(1, "back ^(;");
        at(1, "word a ^by 1;");
        at(1, "word a means ^b;");
        at(1, "word a means^;");
        at(1, "word ^5 means 1;");
        at(1, "say ^a;");
        at(1, "say ^;");
        at(1, "say 1,^;");
        at(1, "say 1^ 2;".replace("^ ", " ^"));
        at(1, "say ^-1;");
        at(1, "tie a ^b;");
        at(1, "tie a to^;");
        at(1, "tie a to ^1;");
        at(1, "tie a ^To b;");
        at(1, "raise a ^as 5;");
        at(1, "raise a by ^b;");
        at(1, "raise a by ^-1;");
        at(1, "sign a ^by 5;");
        at(1, "sign a as ^nil;");
        at(1, "sign a as ^None;");
        at(1, "sign a as ^;");
        at(1, "contract ^a;");
        at(1, "contract^;");
        at(1, "morning ^-1;");
        at(1, "morning 1^,2;");
        at(1, "back a;".repeat(24) + "^walk a;");
    }

    private static void otherFaults() {
        at(2, "price ^10000;");
        at(2, "price ^99999999999999999999999;");
        at(2, "joins 1=^10000;");
        at(2, "word a means ^10;");
        at(2, "say ^10;");
        at(2, "say 1,2,3,4,5,6,7,8,^10;");
        at(2, "raise a by ^0;");
        at(2, "raise a by ^100;");
        at(2, "sign a as ^10;");
        at(2, "contract ^8;");
        at(2, "morning ^0;");
        at(2, "morning ^100;");
        at(3, "price " + OPEN8 + "^(1");
        at(3, "price " + OPEN8 + "^-1");
        at(3, "price --------^-1;");
        at(3, "price --------^(1);");
        at(3, "joins not not not not not not not not ^not 1=1;");
        at(3, "joins not not not not not not not not ^(1)=1;");
        at(3, "joins not not not not not not not not 1=^-1;");
        at(3, "joins not (-(-(-(^-(1)))))=1;");
        at(4, "joins 1=1;^joins 1=1;");
        at(4, "returns 1=1;joins 1=1;^returns 1=1;");
        at(4, "price 1;strike a;^price 1;");
        at(4, "binds 1=1;^binds !");
        at(4, "price 1;" + "back a;".repeat(23) + "^price 1;");
        at(5, "joins ^length=1;");
        at(5, "joins ^broken=1;");
        at(5, "returns 1=^signs;");
        at(5, "returns 1=^days;");
        at(5, "price ^wage;");
        at(5, "price ^tied;");
        at(5, "price ^uses;");
        at(5, "price 1+^broken;");
        at(5, "price (^letter);");
        at(5, "binds ^sense=1;");
        at(5, "binds -^vowel=1;");
        at(5, "binds ^since=1;");
        at(6, "back a;".repeat(24) + "^back a;");
        at(6, "price 1;" + "back a;".repeat(23) + " ^joins");
        at(7, "word ^Tea means 1;");
        at(7, "word ^teA means 1;");
        at(7, "word ^teatotalx means 1;");
        at(7, "word ^aaaaaaaaa means 1;");
        at(7, "strike ^abcdefghi;");
        at(7, "strike ^abcdefghA;");
        at(7, "back ^Z;");
        at(7, "tie a to ^B;");
        at(7, "tie ^A to b;");
        at(7, "raise ^abcdefghij by 1;");
        at(7, "sign ^aB as 1;");
        at(8, "say 1,2,3,4,5,6,7,8,^9;");
        at(8, "say 1,1,1,1,1,1,1,1, ^0");
    }

    /** Up to 300 bytes: a text that has them all. */
    private static void longest() {
        StringBuilder sum = new StringBuilder("price 1");
        for (int i = 0; i < 146; i++) {
            sum.append("+1");
        }
        good(sum + ";");
        Due.due("its length", sum.length() + 1, 300);
        faulty(sum + "+", 1, 300);
        at(1, "^" + "x".repeat(300));
        at(1, "strike a;" + " ".repeat(290) + "^!");
    }

    public static void main(String[] args) {
        goodTexts();
        misplaced();
        otherFaults();
        longest();
        Due.end("FaultsTest");
    }
}
