import java.util.ArrayDeque;
import java.util.ArrayList;
import java.util.Deque;
import java.util.HashSet;
import java.util.List;
import java.util.Map;
import java.util.Set;

/**
 * Drawn texts against a second reader of term II (promises 7 and 8): which has no fault, and where the others have
 * which. It goes by patterns, states and a stack of what stands open, where the class calls itself.
 */
public final class SecondReaderTest {
    private static final int NONE = LettersOnStrike.NONE;

    // ---- the second reader

    /** What a clause has behind its first token: W and L are LETTERS (of a word, of a set), S a sign, a-b a NUMBER. */
    private static final Map<String, String> DEEDS = Map.of(
        "word", "W means 0-9 ;", "tie", "L to L ;", "strike", "L ;", "back", "L ;", "raise", "L by 1-99 ;",
        "sign", "L as S ;", "contract", "0-7 ;", "morning", "1-99 ;", "say", "senses");
    private static final String JOINING = "day outs letter wage since vowel tied uses";
    private static final Map<String, String> NAMES = Map.of("joins", JOINING, "returns", JOINING,
        "price", "day outs length sense signs", "binds", "day outs broken many days");
    private static final List<String> ALL_NAMES = List.of(String.join(" ", NAMES.values()).split(" "));

    /** kind: l letters, n a number, s a symbol, ? none, . the end. */
    private record Token(char kind, String text, int place) {
        boolean is(String what) {
            return text.equals(what);
        }
    }

    private static final class Found extends RuntimeException {
        private static final long serialVersionUID = 1;
        final int fault;
        final int place;

        Found(int fault, Token at) {
            this.fault = fault;
            place = at.place;
        }
    }

    private static List<Token> tokens(String text) {
        List<Token> tokens = new ArrayList<>();
        java.util.regex.Matcher m = java.util.regex.Pattern
            .compile("[ \n]+|([a-zA-Z]+)|([0-9]+)|(<=|>=|[<>=#+*/(),;-])|(?s:.)").matcher(text);
        while (m.find()) {
            if (m.group(1) != null) {
                tokens.add(new Token('l', m.group(), m.start()));
            } else if (m.group(2) != null) {
                tokens.add(new Token('n', m.group(), m.start()));
            } else if (m.group(3) != null) {
                tokens.add(new Token('s', m.group(), m.start()));
            } else if (m.group().charAt(0) != ' ' && m.group().charAt(0) != '\n') {
                tokens.add(new Token('?', m.group(), m.start()));
            }
        }
        tokens.add(new Token('.', "", text.length()));
        return tokens;
    }

    private final List<Token> tokens;
    private int at;

    private SecondReaderTest(String text) {
        tokens = tokens(text);
    }

    private Token next() {
        at++;
        return tokens.get(at - 1);
    }

    private static void check(boolean right, int fault, Token at) {
        if (!right) {
            throw new Found(fault, at);
        }
    }

    private void readAll() {
        Set<String> laws = new HashSet<>();
        int clauses = 0;
        for (Token t = next(); t.kind != '.'; t = next()) {
            boolean law = NAMES.containsKey(t.text);
            check(law || DEEDS.containsKey(t.text), 1, t);
            check(!law || laws.add(t.text), 4, t);
            check(clauses < 24, 6, t);
            clauses++;
            if (law) {
                readLaw(t.text);
            } else if (t.is("say")) {
                readSenses();
            } else {
                for (String what : DEEDS.get(t.text).split(" ")) {
                    readPart(what, next());
                }
            }
        }
    }

    private void readPart(String what, Token t) {
        if (what.equals("W") || what.equals("L")) {
            check(t.kind == 'l', 1, t);
            long many = what.equals("W") ? t.text.length() : t.text.chars().distinct().count();
            check(t.text.matches("[a-z]+") && many <= 8, 7, t);
        } else if (what.equals("S")) {
            if (!t.is("none")) {
                readPart("0-9", t);
            }
        } else if (what.contains("-")) {
            String[] ends = what.split("-");
            check(t.kind == 'n', 1, t);
            check(isWithin(t, Integer.parseInt(ends[0]), Integer.parseInt(ends[1])), 2, t);
        } else {
            check(t.is(what), 1, t);
        }
    }

    private static boolean isWithin(Token t, int least, int most) {
        java.math.BigInteger n = new java.math.BigInteger(t.text);
        return n.bitLength() < 31 && n.intValue() >= least && n.intValue() <= most;
    }

    private void readSenses() {
        for (int i = 0;; i++) {
            Token t = next();
            readPart("0-9", t);
            check(i < 8, 8, t);
            Token behind = next();
            check(behind.is(",") || behind.is(";"), 1, behind);
            if (behind.is(";")) {
                return;
            }
        }
    }

    /** open has n for not, ( and -; an ask is over at and, or and ;, a one at its last token. */
    private void readLaw(String law) {
        boolean asks = !law.equals("price");
        Deque<Character> open = new ArrayDeque<>();
        boolean askBegins = asks;
        boolean compared = !asks;
        boolean oneIsDue = true;
        while (true) {
            Token t = next();
            if (oneIsDue) {
                boolean opens = t.is("(") || t.is("-") || askBegins && t.is("not");
                boolean name = ALL_NAMES.contains(t.text);
                check(opens || name || t.kind == 'n', 1, t);
                check(t.kind != 'n' || isWithin(t, 0, 9999), 2, t);
                check(!opens || open.size() < 8, 3, t);
                check(!name || List.of(NAMES.get(law).split(" ")).contains(t.text), 5, t);
                if (opens) {
                    open.push(t.text.charAt(0));
                    askBegins &= t.is("not");
                } else {
                    oneIsOver(open);
                    askBegins = false;
                    oneIsDue = false;
                }
                continue;
            }
            boolean inBrackets = open.contains('(');
            if (t.is(")")) {
                check(inBrackets, 1, t);
                open.pop();
                oneIsOver(open);
            } else if ("+-*/".contains(t.text) && t.kind == 's') {
                oneIsDue = true;
            } else if (t.kind == 's' && "< <= > >= = #".contains(t.text)) {
                check(!inBrackets && !compared, 1, t);
                compared = true;
                oneIsDue = true;
            } else {
                check(!inBrackets && compared && (t.is(";") || asks && (t.is("and") || t.is("or"))), 1, t);
                if (t.is(";")) {
                    return;
                }
                open.clear();
                compared = false;
                askBegins = true;
                oneIsDue = true;
            }
        }
    }

    private static void oneIsOver(Deque<Character> open) {
        while (!open.isEmpty() && open.peek() == '-') {
            open.pop();
        }
    }

    // ---- texts, drawn as tokens

    private static final List<String> TOKENS = List.of(("joins returns price binds word say tie strike back raise "
        + "sign contract morning means to by as none or and not day outs letter wage since vowel tied uses length "
        + "sense signs broken many days < <= > >= = # + - * / ( ) , ; ; ; 0 1 7 8 9 10 99 100 9999 10000 a abc "
        + "12345678901234567890 A aB abcdefgh abcdefghi aaaaaaaaa ! _ \t not ( -").split(" "));

    private static long seed = 41;

    private static int draw(int below) {
        seed = seed * 6364136223846793005L + 1442695040888963407L;
        return (int) ((seed >>> 33) % below);
    }

    private static String pick(List<String> all) {
        return all.get(draw(all.size()));
    }

    private static void addAll(List<String> text, String tokens) {
        text.addAll(List.of(tokens.split(" ")));
    }

    private static String letters() {
        return "abcdefgh".substring(draw(4), 4 + draw(5));
    }

    private static void addOne(List<String> text, String law) {
        switch (draw(7)) {
            case 0, 1 -> text.add("" + draw(20));
            case 2, 3, 4 -> text.add(pick(List.of(NAMES.get(law).split(" "))));
            case 5 -> {
                text.add("-");
                addOne(text, law);
            }
            default -> {
                text.add("(");
                addSum(text, law);
                text.add(")");
            }
        }
    }

    private static void addSum(List<String> text, String law) {
        addOne(text, law);
        while (draw(3) == 0) {
            text.add(pick(List.of("+", "-", "*", "/")));
            addOne(text, law);
        }
    }

    private static void addLaw(List<String> text, String law) {
        text.add(law);
        boolean asks = !law.equals("price");
        do {
            while (asks && draw(3) == 0) {
                text.add("not");
            }
            addSum(text, law);
            if (asks) {
                text.add(pick(List.of("<", "<=", ">", ">=", "=", "#")));
                addSum(text, law);
            }
            text.add(pick(List.of("and", "or")));
        } while (asks && draw(3) == 0);
        text.set(text.size() - 1, ";");
    }

    private static void addDeed(List<String> text) {
        switch (draw(8)) {
            case 0 -> addAll(text, "word " + letters() + " means " + draw(10) + " ;");
            case 1 -> addAll(text, "tie " + letters() + " to " + letters() + " ;");
            case 2 -> addAll(text, "back " + letters() + " ; strike " + letters() + " ;");
            case 3 -> addAll(text, "raise " + letters() + " by " + (1 + draw(99)) + " ;");
            case 4 -> addAll(text, "sign " + letters() + " as " + (draw(2) == 0 ? "none" : draw(10)) + " ;");
            case 5 -> addAll(text, "contract " + draw(8) + " ;");
            case 6 -> addAll(text, "morning " + (1 + draw(99)) + " ;");
            default -> addAll(text, "say 1" + " , 2".repeat(draw(9)) + " ;");
        }
    }

    /** Some of nine open ones, which a good text has seldom. */
    private static void addDeep(List<String> text) {
        text.add(pick(List.of("joins", "returns", "price")));
        int brackets = 0;
        for (int i = draw(10); i > 0; i--) {
            String opens = pick(text.get(text.size() - 1).matches("[(-]") || text.get(0).equals("price")
                ? List.of("(", "-") : List.of("not", "not", "(", "-"));
            brackets += opens.equals("(") ? 1 : 0;
            text.add(opens);
        }
        text.add("1");
        addAll(text, (") ".repeat(brackets) + "= - ( - - 1 ) ;"));
    }

    private static List<String> drawText() {
        List<String> text = new ArrayList<>();
        int kind = draw(10);
        if (kind == 0) {
            for (int i = draw(20); i > 0; i--) {
                text.add(pick(TOKENS));
            }
        } else if (kind == 1) {
            addAll(text, "back a ; ".repeat(21 + draw(5)) + "price 1 ;");
        } else if (kind == 2) {
            addDeep(text);
        } else if (kind == 3) {
            addAll(text, "say 0" + " , 3".repeat(5 + draw(4)) + " , " + (8 + draw(4)) + " ;");
        } else {
            List<String> laws = new ArrayList<>(List.of("joins", "returns", "price", "binds"));
            for (int i = draw(7); i > 0; i--) {
                if (draw(3) == 0 && !laws.isEmpty()) {
                    String law = pick(laws);
                    addLaw(text, law);
                    if (draw(8) > 0) {
                        laws.remove(law);
                    }
                } else {
                    addDeed(text);
                }
            }
        }
        return text;
    }

    private static void spoil(List<String> text) {
        int place = draw(text.size() + 1);
        boolean inside = place < text.size();
        switch (draw(4)) {
            case 0 -> text.add(place, pick(TOKENS));
            case 1 -> text.subList(place, text.size()).clear();
            case 2 -> {
                if (inside) {
                    text.remove(place);
                }
            }
            default -> {
                if (inside) {
                    text.set(place, pick(TOKENS));
                }
            }
        }
    }

    private static String joined(List<String> text) {
        StringBuilder all = new StringBuilder();
        int dense = draw(3);
        for (String token : text) {
            int blank = draw(8);
            boolean grows = all.length() > 0 && Character.isLetterOrDigit(all.charAt(all.length() - 1))
                && Character.isLetterOrDigit(token.charAt(0));
            all.append(blank == 0 ? "\n" : blank < 3 || dense == 0 || grows && blank != 7 ? " " : "").append(token);
        }
        return all.substring(0, Math.min(300, all.length()));
    }

    public static void main(String[] args) {
        int[] seen = new int[9];
        for (int i = 0; i < 100000; i++) {
            List<String> drawn = drawText();
            for (int times = draw(3); times > 0; times--) {
                spoil(drawn);
            }
            String text = joined(drawn);
            int fault = 0;
            int place = NONE;
            try {
                new SecondReaderTest(text).readAll();
            } catch (Found found) {
                fault = found.fault;
                place = found.place;
            }
            LettersOnStrike x = new LettersOnStrike();
            Due.due("text '" + text + "'", Due.text(x, text), fault == 0 ? 0 : NONE);
            Due.due("fault of '" + text + "'", x.fault(0), fault);
            Due.due("place in '" + text + "'", x.fault(1), place);
            seen[fault]++;
        }
        for (int fault = 0; fault < seen.length; fault++) {
            Due.due("fault " + fault + " was drawn often enough (" + seen[fault] + ")", seen[fault] >= 300, true);
        }
        Due.end("SecondReaderTest");
    }
}
