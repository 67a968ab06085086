/** What the tests share: counting wrong answers, and telling texts and words as plain strings. */
final class Due {
    private static int wrong = 0;

    private Due() { }

    static void due(String call, long got, long want) {
        if (got != want) {
            wrong++;
            if (wrong <= 50) {
                System.out.println(call + " answered " + got + ", due is " + want);
            }
        }
    }

    static void due(String call, boolean got, boolean want) {
        due(call, got ? 1 : 0, want ? 1 : 0);
    }

    static void end(String test) {
        System.out.println(test + ": " + (wrong == 0 ? "all answers are as due" : wrong + " answers are not as due"));
        if (wrong != 0) {
            System.exit(1);
        }
    }

    /** The letters as bits. */
    static int set(String letters) {
        int set = 0;
        for (char c : letters.toCharArray()) {
            set |= 1 << (c - 'a');
        }
        return set;
    }

    static int word(LettersOnStrike x, String letters, int sense) {
        int[] half = new int[2];
        for (int i = 0; i < letters.length(); i++) {
            half[i / 4] |= letters.charAt(i) << 8 * (i % 4);
        }
        return x.word(half[0], half[1], sense);
    }

    /** Puts these bytes on the tape, and nothing else. */
    static void tape(LettersOnStrike x, String text) {
        x.end(0);
        for (int at = 0; at < text.length(); at += 20) {
            int[] five = new int[5];
            for (int i = 0; i < 20 && at + i < text.length(); i++) {
                five[i / 4] |= (text.charAt(at + i) & 255) << (24 - 8 * (i % 4));
            }
            x.feed(five[0], five[1], five[2], five[3], five[4]);
        }
        x.end(text.length());
    }

    static int text(LettersOnStrike x, String text) {
        tape(x, text);
        return x.text();
    }
}
