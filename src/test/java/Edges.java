/** What the tests of edges share: the sentence at hand, an empire with something of everything, a look at it. */
final class Edges {
    static final int NONE = LettersOnStrike.NONE;
    static final int LEAST = Integer.MIN_VALUE;
    static final int MOST = Integer.MAX_VALUE;
    static final int ALL = (1 << 26) - 1;

    private static String sentence = "";

    private Edges() { }

    /** The calls that follow are to hold this sentence of the document (the promise's number, or the term's). */
    static void says(String words) {
        sentence = words;
    }

    static void is(String call, long got, long want) {
        Due.due("[" + sentence + "] " + call, got, want);
    }

    static void is(String call, boolean got, boolean want) {
        Due.due("[" + sentence + "] " + call, got, want);
    }

    /** Refused calls change nothing: two looks, ahead of them and behind them, are to be the same. */
    static void unchanged(LettersOnStrike x, String before) {
        String after = look(x);
        is("nothing is done (" + before + " became " + after + ")", after.equals(before), true);
    }

    static LettersOnStrike fresh() {
        return new LettersOnStrike();
    }

    /** Words 0 tea, 1 sea, 2 rum (2), 3 loaf, 4 bread (1); sayings 0: 1 2, 1: 2 2, 2: 5 (of which there is no word). */
    static LettersOnStrike pantry() {
        LettersOnStrike x = fresh();
        Due.word(x, "tea", 2);
        Due.word(x, "sea", 2);
        Due.word(x, "rum", 2);
        Due.word(x, "loaf", 1);
        Due.word(x, "bread", 1);
        x.saying(112);
        x.saying(122);
        x.saying(15);
        return x;
    }

    /** The pantry with something of everything else; 6 steps, day 2, t and z out, t with a sign. */
    static LettersOnStrike busy() {
        LettersOnStrike x = pantry();
        x.tie(0, 4);
        x.tie(25, 0);
        Due.text(x, "price length*2;");
        Due.text(x, "binds broken<2;strike y;");
        x.by(1);
        x.raise(1, 9);
        x.sign(19, 4);
        x.strike(Due.set("tz"));
        x.morning(2);
        x.contract(0);
        x.party(Due.set("e"));
        x.party(Due.set("am"));
        x.printed(0, 3, true);
        x.printed(2, 4, false);
        Due.tape(x, "price 1;");
        return x;
    }

    /** What can be seen of an object, in some hundred calls. */
    static String look(LettersOnStrike x) {
        StringBuilder seen = new StringBuilder();
        for (int what = 0; what <= 11; what++) {
            seen.append(x.about(what)).append(' ');
        }
        int[] letters = {0, 1, 4, 19, 25};
        for (int letter : letters) {
            for (int what = 0; what <= 6; what++) {
                seen.append(x.of(letter, what)).append(' ');
            }
        }
        for (int i = 0; i < 3; i++) {
            seen.append("/ ").append(x.ofWord(i, 0)).append(' ').append(x.ofWord(i, 1)).append(' ');
            seen.append(x.ofWord(i, 2)).append(' ').append(x.ofSaying(i, 0)).append(' ').append(x.ofSaying(i, 10));
            seen.append(' ').append(x.dear(i)).append(' ');
        }
        for (int what = 0; what < 6; what++) {
            seen.append(x.signed(0, what)).append(' ');
        }
        seen.append("/ ").append(x.signed(NONE, 0)).append(' ').append(x.worth(1)).append(' ').append(x.worth(3));
        seen.append(' ').append(x.spells(19, NONE)).append(' ').append(x.spells(20, NONE));
        seen.append(' ').append(x.fault(0)).append(' ').append(x.fault(1));
        return seen.toString();
    }

    /** The object passes mornings up to this day. */
    static void until(LettersOnStrike x, int day) {
        for (int i = 0; i < 20 && x.about(2) < day; i++) {
            x.morning(Math.min(99, day - x.about(2)));
        }
    }
}
