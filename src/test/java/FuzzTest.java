import java.lang.reflect.InvocationTargetException;
import java.lang.reflect.Method;
import java.util.ArrayList;
import java.util.Comparator;
import java.util.List;

/** Any call with any arguments in any state answers; and a fault's place is the first that is wrong. */
public final class FuzzTest {
    private static final int[] EXTREMES = {Integer.MIN_VALUE, Integer.MIN_VALUE + 1, -100, -3, -2, -1, 0,
        1, 9, 10, 25, 26, 31, 32, 63, 99, 100, 999, 1 << 25, 1 << 26, (1 << 26) - 1, 1 << 30,
        Integer.MAX_VALUE - 9, Integer.MAX_VALUE};
    private static final String[] TOKENS = ("joins returns price binds word say tie strike back raise sign "
        + "contract morning means to by as none or and not day outs letter wage since vowel tied uses length "
        + "sense signs broken many days < <= > >= = # + - * / ( ) , ; ; ; ; 0 1 7 9 10 99 100 9999 10000 a abc "
        + "A aB abcdefghi aaaaaaaaa ! \n").split(" ");

    private static long seed = 99;

    private static int draw(int below) {
        seed = seed * 6364136223846793005L + 1442695040888963407L;
        return (int) ((seed >>> 33) % below);
    }

    private static int argument() {
        switch (draw(6)) {
            case 0: return EXTREMES[draw(EXTREMES.length)];
            case 1: return draw(1 << 26) & draw(1 << 26) & draw(1 << 26);
            case 2: return (int) (draw(1 << 16) * 65536L + draw(1 << 16));
            default: return draw(14) - 2;
        }
    }

    private static String soup() {
        StringBuilder text = new StringBuilder();
        int n = draw(40);
        for (int i = 0; i < n; i++) {
            text.append(TOKENS[draw(TOKENS.length)]).append(draw(9) == 0 ? "" : " ");
        }
        return text.substring(0, Math.min(300, text.length()));
    }

    private static List<Method> calls() {
        List<Method> calls = new ArrayList<>();
        for (Method m : LettersOnStrike.class.getDeclaredMethods()) {
            if ((m.getModifiers() & java.lang.reflect.Modifier.PUBLIC) != 0) {
                calls.add(m);
            }
        }
        calls.sort(Comparator.comparing(Method::getName));
        return calls;
    }

    private static void callAnything() throws IllegalAccessException {
        List<Method> calls = calls();
        Due.due("methods of the face", calls.size(), 40);
        for (int run = 0; run < 400; run++) {
            LettersOnStrike x = new LettersOnStrike();
            for (int i = 0; i < 512; i++) {
                Method m = calls.get(draw(calls.size()));
                Object[] arguments = new Object[m.getParameterCount()];
                for (int k = 0; k < arguments.length; k++) {
                    arguments[k] = m.getParameterTypes()[k] == int.class ? (Object) argument() : draw(2) == 0;
                }
                try {
                    m.invoke(x, arguments);
                } catch (InvocationTargetException e) {
                    e.getCause().printStackTrace(System.out);
                    Due.due(m + " of " + java.util.Arrays.toString(arguments) + " threw", 1, 0);
                }
                enrich(x, i);
            }
        }
    }

    /** Drawn arguments alone would seldom tell words, sayings and texts. */
    private static void enrich(LettersOnStrike x, int i) {
        if (i % 16 == 3) {
            Due.word(x, "" + (char) ('a' + draw(26)) + (char) ('a' + draw(26)), draw(3));
        } else if (i % 64 == 5) {
            x.saying(100 + draw(3) * 10 + draw(3));
        } else if (i % 64 == 7) {
            Due.text(x, "joins tied>0;binds outs<" + draw(9) + ";strike abc;raise abc by 9;word ea means 1;");
        } else if (i % 64 == 9) {
            Due.text(x, soup());
        } else if (i % 16 == 11) {
            x.party(1 << draw(26));
            x.printed(0, draw(31), draw(2) == 0);
        }
    }

    /** What stands ahead of a fault is a text's beginning: alone it is a text, or ends too early. */
    private static void faultsAreTheFirst() {
        for (int i = 0; i < 60000; i++) {
            LettersOnStrike x = new LettersOnStrike();
            String text = i % 2 == 0 ? soup() : spoilt();
            int number = Due.text(x, text);
            int fault = x.fault(0);
            int place = x.fault(1);
            Due.due("fault or text: '" + text + "'", fault == 0, number == 0);
            if (fault == 0) {
                Due.due("no place", place, LettersOnStrike.NONE);
                continue;
            }
            Due.due("a fault: '" + text + "'", fault >= 1 && fault <= 8, true);
            Due.due("its place: '" + text + "'", place >= 0 && place <= text.length(), true);
            LettersOnStrike y = new LettersOnStrike();
            String start = text.substring(0, place);
            Due.text(y, start);
            boolean begins = y.fault(0) == 0 || y.fault(0) == 1 && y.fault(1) == place;
            Due.due("the beginning of '" + text + "' up to " + place, begins, true);
        }
    }

    /** A good text with one token changed. */
    private static String spoilt() {
        String[] tokens = ("joins day < 5 and not ( outs + 1 ) * - wage >= 7 or tied # uses ; price length * 2 "
            + "/ ( sense - signs ) ; binds broken = 0 or many < days ; word abc means 4 ; say 1 , 2 , 3 ; tie a "
            + "to bc ; strike z ; back z ; raise ab by 7 ; sign a as none ; sign b as 3 ; contract 0 ; morning 3 ;")
            .split(" ");
        tokens[draw(tokens.length)] = TOKENS[draw(TOKENS.length)];
        return String.join(" ", tokens);
    }

    public static void main(String[] args) throws IllegalAccessException {
        callAnything();
        faultsAreTheFirst();
        Due.end("FuzzTest");
    }
}
