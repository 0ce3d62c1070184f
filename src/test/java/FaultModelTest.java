import java.util.ArrayList;
import java.util.HashMap;
import java.util.List;
import java.util.Map;
import java.util.Random;
import java.util.regex.Matcher;
import java.util.regex.Pattern;

/** Promises 4 and 5 over many broken texts, against a second finding of faults: tokens and what may follow are patterns here. */
public final class FaultModelTest {
    private static final Check CHECK = new Check("FaultModelTest");
    private static final String[] WORDS = {"sock", "glove", "like", "near", "table", "full", "back", "stop", "few", "many", "line", "right",
        "seed", "lose", "if", "then", "else", "week", "kind", "there", "all", "lot"};
    private static final String WORD_LETTERS = "sgkntfwwwwlreLIHEvvvvv";
    private static final Pattern TOKEN = Pattern.compile("[a-z]+|[0-9]+|.", Pattern.DOTALL);
    private static final Pattern TEXT = Pattern.compile(textPattern());

    public static void main(String[] args) {
        Random random = new Random(42);
        int[] found = new int[6];
        for (int i = 0; i < 25000; i++) {
            String text = i % 20 == 0 ? longText(random) : anyText(random);
            if (text.length() > 2000) {
                continue;
            }
            int[] want = faultOf(text);
            found[want[0]]++;
            SockTable x = new SockTable();
            Check.feed(x, text);
            CHECK.due("read() of " + text, x.read(), want[0]);
            CHECK.due("place() of " + text, x.place(), want[1]);
        }
        for (int i = 0; i < found.length; i++) {
            CHECK.due("enough texts with fault " + i, found[i] > 200, true);
        }
        CHECK.end();
    }

    private static String textPattern() {
        String unit = "[iv]";
        for (int depth = 0; depth < 7; depth++) {
            unit = "(?:[iv]|\\(" + unit + "(?:[-+*/]" + unit + ")*+\\))";
        }
        String e = unit + "(?:[-+*/]" + unit + ")*+";
        return "(?:sNi;|gNii;|kNNi;|[nte]i;|fw;|l(?:r?N)*+;|L=(?:I" + e + "<" + e + "H" + e + "E)*+" + e + ";)*+";
    }

    private static final class Token {
        final char letter;
        final String text;
        final int place;

        Token(char letter, String text, int place) {
            this.letter = letter;
            this.text = text;
            this.place = place;
        }
    }

    private static List<Token> tokens(String text) {
        List<Token> all = new ArrayList<>();
        Matcher m = TOKEN.matcher(text);
        while (m.find()) {
            String t = m.group();
            char c = t.charAt(0);
            if (" \t\r\n".indexOf(c) >= 0) {
                continue;
            }
            char letter = '?';
            if (c >= 'a' && c <= 'z') {
                letter = t.length() > 8 ? '?' : 'N';
                for (int i = 0; i < WORDS.length; i++) {
                    letter = WORDS[i].equals(t) ? WORD_LETTERS.charAt(i) : letter;
                }
            } else if (c >= '0' && c <= '9') {
                letter = t.length() > 4 ? '?' : 'i';
            } else if (";=+-*/<()".indexOf(c) >= 0) {
                letter = c;
            }
            all.add(new Token(letter, t, m.start()));
        }
        return all;
    }

    /** The first token with which no text goes on; how many there are, if all do. */
    private static int firstWrong(String letters) {
        for (int n = 1; n <= letters.length(); n++) {
            Matcher m = TEXT.matcher(letters.substring(0, n));
            if (!m.matches() && !m.hitEnd()) {
                return n - 1;
            }
        }
        return letters.length();
    }

    private static int firstWithoutRoom(String letters) {
        int kinds = 0;
        int likes = 0;
        int ifs = 0;
        int open = 0;
        for (int i = 0; i < letters.length(); i++) {
            char c = letters.charAt(i);
            kinds += c == 's' ? 1 : c == 'g' ? 2 : 0;
            likes += c == 'k' ? 1 : 0;
            ifs += c == 'I' ? 1 : 0;
            open += c == '(' ? 1 : c == ')' ? -1 : 0;
            if (i == 400 || kinds > 8 || likes > 15 || ifs > 4 || open > 6) {
                return i;
            }
        }
        return letters.length() + 1;
    }

    private static int[] faultOf(String text) {
        List<Token> tokens = tokens(text);
        StringBuilder letters = new StringBuilder();
        for (Token t : tokens) {
            letters.append(t.letter);
        }
        int wrong = firstWrong(letters.toString());
        int room = firstWithoutRoom(letters.toString());
        boolean whole = wrong == tokens.size() && TEXT.matcher(letters).matches();
        if (room < wrong || room == wrong && whole) {
            return new int[] {2, tokens.get(room).place};
        }
        if (!whole) {
            return new int[] {1, wrong < tokens.size() ? tokens.get(wrong).place : text.length()};
        }
        return toldFault(tokens);
    }

    private static int[] toldFault(List<Token> tokens) {
        Map<String, int[]> told = new HashMap<>();
        int things = 0;
        for (int i = 0; i < tokens.size(); i++) {
            int from = i;
            while (tokens.get(i).letter != ';') {
                i++;
            }
            List<Token> tell = tokens.subList(from, i);
            int[] fault = null;
            switch (tell.get(0).letter) {
                case 's': case 'g': {
                    fault = told.containsKey(tell.get(1).text) ? fault(3, tell.get(1)) : null;
                    int[] many = new int[tell.size() - 2];
                    for (int j = 2; j < tell.size() && fault == null; j++) {
                        many[j - 2] = Integer.parseInt(tell.get(j).text);
                        things += many[j - 2];
                        fault = many[j - 2] > 9 || j == tell.size() - 1 && things > 18 ? fault(5, tell.get(j)) : null;
                    }
                    told.put(tell.get(1).text, many);
                    break;
                }
                case 'k':
                    for (int j = 2; j >= 1; j--) {
                        fault = told.containsKey(tell.get(j).text) ? fault : fault(4, tell.get(j));
                    }
                    fault = fault == null ? outside(tell.get(3), 0, 99) : fault;
                    break;
                case 'n': fault = outside(tell.get(1), 0, 99); break;
                case 't': fault = outside(tell.get(1), 1, 18); break;
                case 'l': fault = lineFault(tell, told); break;
                default: break;
            }
            if (fault != null) {
                return fault;
            }
        }
        return new int[] {0, -1};
    }

    private static int[] lineFault(List<Token> tell, Map<String, int[]> told) {
        Map<String, Integer> hung = new HashMap<>();
        for (int j = 1; j < tell.size(); j++) {
            boolean right = tell.get(j).letter == 'r';
            j += right ? 1 : 0;
            int[] many = told.get(tell.get(j).text);
            if (many == null) {
                return fault(4, tell.get(j));
            }
            if (right && many.length == 1) {
                return fault(5, tell.get(j));
            }
            if (hung.merge(right + tell.get(j).text, 1, Integer::sum) > many[right ? 1 : 0]) {
                return fault(5, tell.get(j));
            }
        }
        return null;
    }

    private static int[] outside(Token t, int least, int most) {
        int value = Integer.parseInt(t.text);
        return value < least || value > most ? fault(5, t) : null;
    }

    private static int[] fault(int what, Token at) {
        return new int[] {what, at.place};
    }

    private static String name(Random random) {
        return new String[] {"a", "b", "cc", "dd", "e", "abcdefgh", "soc", "lots", "x", "y"}[random.nextInt(10)];
    }

    private static String e(Random random, int depth) {
        int pick = random.nextInt(depth > 7 ? 2 : 6);
        if (pick == 0) {
            return "" + random.nextInt(10000);
        }
        if (pick == 1) {
            return WORDS[17 + random.nextInt(5)];
        }
        if (pick < 4) {
            return e(random, depth + 1) + "+-*/".charAt(random.nextInt(4)) + e(random, depth + 3);
        }
        return "(" + e(random, depth + 1) + ")";
    }

    private static String tell(Random random, List<String> names) {
        String old = names.isEmpty() ? "q" : names.get(random.nextInt(names.size()));
        String other = names.isEmpty() || random.nextInt(8) == 0 ? name(random) : names.get(random.nextInt(names.size()));
        switch (random.nextInt(12)) {
            case 0: case 1: case 2: {
                String name = names.contains(other) || random.nextInt(6) == 0 ? name(random) : other;
                names.add(name);
                return "sock " + name + " " + random.nextInt(random.nextInt(8) == 0 ? 12 : 5) + ";";
            }
            case 3: {
                String name = name(random);
                names.add(name);
                return "glove " + name + " " + random.nextInt(random.nextInt(8) == 0 ? 12 : 4) + " " + random.nextInt(4) + ";";
            }
            case 4: case 5: return "like " + old + " " + other + " " + random.nextInt(103) + ";";
            case 6: return "near " + random.nextInt(105) + ";";
            case 7: return "table " + random.nextInt(21) + ";";
            case 8: return "full " + WORDS[6 + random.nextInt(4)] + ";";
            case 9: return "line " + (random.nextInt(3) == 0 ? "right " : "") + old + (random.nextBoolean() ? " " + other : "") + ";";
            case 10: return "seed " + random.nextInt(10000) + ";";
            default: {
                StringBuilder law = new StringBuilder("lose=");
                for (int i = random.nextInt(4); i > 0; i--) {
                    law.append("if ").append(e(random, 4)).append('<').append(e(random, 4)).append(" then ");
                    law.append(e(random, 5)).append(" else ");
                }
                return law + e(random, 0) + ";";
            }
        }
    }

    private static String anyText(Random random) {
        StringBuilder text = new StringBuilder();
        List<String> names = new ArrayList<>();
        for (int i = random.nextInt(random.nextInt(6) == 0 ? 40 : 12); i >= 0; i--) {
            text.append(tell(random, names)).append(random.nextInt(3) == 0 ? " \t\r\n".substring(random.nextInt(4)) : "");
        }
        for (int i = random.nextInt(6) - 3; i > 0; i--) {
            mutate(text, random);
        }
        return text.toString();
    }

    private static void mutate(StringBuilder text, Random random) {
        int at = random.nextInt(text.length() + 1);
        switch (random.nextInt(4)) {
            case 0: text.setLength(at); break;
            case 1: text.insert(at, random.nextBoolean() ? " " + WORDS[random.nextInt(22)] + " " : "7"); break;
            case 2: text.insert(at, ";=+-*/<().x A0\u00ff\u0000>,".charAt(random.nextInt(18))); break;
            default: text.delete(at, Math.min(text.length(), at + 1 + random.nextInt(3)));
        }
    }

    /** Some 400 tokens, with all that has no room near the end. */
    private static String longText(Random random) {
        StringBuilder text = new StringBuilder("sock a 1;sock b 2;");
        List<String> names = new ArrayList<>(List.of("a", "b"));
        int fill = 380 + random.nextInt(25);
        for (int i = 0; i < fill - 8; i += 2) {
            text.append("line;");
        }
        for (int i = random.nextInt(4); i > 0; i--) {
            text.append(tell(random, names));
        }
        if (random.nextBoolean()) {
            mutate(text, random);
        }
        return text.toString();
    }
}
