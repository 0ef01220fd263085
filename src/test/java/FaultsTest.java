import java.util.Random;
import java.util.regex.Matcher;
import java.util.regex.Pattern;

/** Compares the faults of many texts with those that Java's regular expressions find for the same grammar. */
public final class FaultsTest {
    private static final String COMMAND = "(?:star \\d \\d|roof \\d\\d?|cloud \\d \\d|sight \\d[a-h]|claim \\d[a-h]"
            + "|drop [a-h]|wish \\d[a-h]\\d|pay \\d \\d\\d?|pound \\d|redeem \\d|stay \\d \\d|dawn)";
    private static final Pattern TEXT = Pattern.compile(COMMAND + "(?:;" + COMMAND + ")*");
    private static final String SIGNS = "abcdefghiklmnoprstuwy 0123456789;SA/:`";
    private static final int MOST_INPUT = 60;
    private static final int TEXTS = 40_000;
    private static final int WHOLE = -1;

    private static final Checks c = new Checks();
    private static final Random random = new Random(5);

    public static void main(String[] args) {
        for (int i = 0; i < TEXTS; i++) {
            compare(text());
        }
        c.end();
    }

    private static void compare(String text) {
        int fault = faultOf(text);
        StarBailiff x = new StarBailiff();
        int code = Checks.read(x, text);
        c.due("'" + text + "' has a fault", code == StarBailiff.BAD ? 1 : 0, fault == WHOLE ? 0 : 1);
        c.due("fault of '" + text + "'", x.fault(), fault == WHOLE ? StarBailiff.NOTHING : fault);
    }

    /** A beginning can go on to a text if it is one, or if the matcher would have read on at its end. */
    private static int faultOf(String text) {
        if (TEXT.matcher(text).matches()) {
            return WHOLE;
        }
        for (int length = 1; length <= text.length(); length++) {
            Matcher beginning = TEXT.matcher(text.substring(0, length));
            if (!beginning.matches() && !beginning.hitEnd()) {
                return length - 1;
            }
        }
        return text.length();
    }

    /** Returns up to four commands, with up to two characters put in, left out or in place of others. */
    private static String text() {
        StringBuilder text = new StringBuilder(command());
        for (int more = random.nextInt(4); more > 0; more--) {
            text.append(';').append(command());
        }
        for (int slips = random.nextInt(3); slips > 0 && text.length() > 0; slips--) {
            slip(text);
        }
        text.setLength(Math.min(text.length(), MOST_INPUT));
        return text.toString();
    }

    private static void slip(StringBuilder text) {
        int at = random.nextInt(text.length());
        char sign = SIGNS.charAt(random.nextInt(SIGNS.length()));
        switch (random.nextInt(4)) {
            case 0: text.setCharAt(at, sign); break;
            case 1: text.insert(at, sign); break;
            case 2: text.deleteCharAt(at); break;
            default: text.setLength(at);
        }
    }

    private static String command() {
        int digit = random.nextInt(10);
        int other = random.nextInt(10);
        int number = random.nextInt(100);
        char letter = (char) ('a' + random.nextInt(8));
        switch (random.nextInt(12)) {
            case 0: return "star " + digit + " " + other;
            case 1: return "roof " + (random.nextBoolean() ? digit : number);
            case 2: return "cloud " + digit + " " + other;
            case 3: return "sight " + digit + letter;
            case 4: return "claim " + digit + letter;
            case 5: return "drop " + letter;
            case 6: return "wish " + digit + letter + other;
            case 7: return "pay " + digit + " " + (random.nextBoolean() ? other : number);
            case 8: return "pound " + digit;
            case 9: return "redeem " + digit;
            case 10: return "stay " + digit + " " + other;
            default: return "dawn";
        }
    }
}
