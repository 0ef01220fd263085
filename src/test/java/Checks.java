import java.io.IOException;
import java.io.UncheckedIOException;
import java.nio.file.Files;
import java.nio.file.Path;

/** What all tests share: answers compared with those that are due, and short ways to prepare an object. */
final class Checks {
    private static final Path DOCUMENT = Path.of("../shared/DOC.md");

    private int wrong = 0;
    private int made = 0;
    private String document = "";
    private String sentence = "";

    /** Says which sentence of the document the checks that follow are about; it must stand there. */
    void sentence(String words) {
        if (document.isEmpty()) {
            document = plain(read(DOCUMENT));
        }
        sentence = "";
        due("the document has '" + words + "'", document.contains(plain(words)) ? 1 : 0, 1);
        sentence = words;
    }

    private static String read(Path file) {
        try {
            return Files.readString(file);
        } catch (IOException e) {
            throw new UncheckedIOException(e);
        }
    }

    // The document breaks its lines anywhere, and puts marks of code round its grammar.
    private static String plain(String words) {
        return words.replace("`", "").replaceAll("\\s+", " ");
    }

    void due(String call, double got, double want) {
        made++;
        if (got != want) {
            wrong(call + " answered " + got + ", due is " + want);
        }
    }

    void same(String what, String got, String want) {
        made++;
        if (!got.equals(want)) {
            wrong(what + " is " + got + ", due is " + want);
        }
    }

    private void wrong(String message) {
        wrong++;
        System.out.println(message + (sentence.isEmpty() ? "" : " (\"" + sentence + "\")"));
    }

    /** Checks that a code is REFUSED, for this reason and detail, with nothing behind it. */
    void refused(StarBailiff x, String call, int code, int reason, int detail) {
        due(call, code, StarBailiff.REFUSED);
        due(call + " reason", x.reason(0, false), reason);
        due(call + " detail", x.reason(0, true), detail);
        due(call + " reason behind", x.reason(1, false), StarBailiff.NOTHING);
        due(call + " detail behind", x.reason(1, true), StarBailiff.NOTHING);
    }

    /** Checks that a text is refused for the command of this number, with this reason and detail behind it. */
    void behind(StarBailiff x, String text, int number, int reason, int detail) {
        due(text, read(x, text), StarBailiff.REFUSED);
        due("reason of " + text, x.reason(0, false), 13);
        due("detail of " + text, x.reason(0, true), number);
        due("reason behind " + text, x.reason(1, false), reason);
        due("detail behind " + text, x.reason(1, true), detail);
    }

    /** Checks that a text has its fault at this position. */
    void faulty(String text, int position) {
        StarBailiff x = new StarBailiff();
        due("'" + text + "'", read(x, text), StarBailiff.BAD);
        due("fault of '" + text + "'", x.fault(), position);
    }

    /** Appends a text and reads it. */
    static int read(StarBailiff x, String text) {
        feed(x, text);
        return x.read();
    }

    static void feed(StarBailiff x, String text) {
        for (int i = 0; i < text.length(); i++) {
            x.append(text.charAt(i));
        }
    }

    /** Returns a new object that has carried out these commands. */
    static StarBailiff after(String... texts) {
        StarBailiff x = new StarBailiff();
        then(x, texts);
        return x;
    }

    /** Carries out commands, each by a call of its own; one that fails ends the test. */
    static void then(StarBailiff x, String... texts) {
        for (String text : texts) {
            for (String command : text.split(";")) {
                int code = call(x, command);
                if (code < 0) {
                    throw new IllegalStateException("preparation '" + command + "' answered " + code);
                }
            }
        }
    }

    // An object has 512 calls: a command by its call costs one of them, by its characters a dozen.
    private static int call(StarBailiff x, String command) {
        String[] parts = command.split(" ");
        String places = parts.length > 1 ? parts[1] : "";
        int a = place(places, 0);
        int b = parts.length > 2 ? Integer.parseInt(parts[2]) : place(places, 1);
        switch (parts[0]) {
            case "star": return x.star(a, b);
            case "roof": return x.roof(Integer.parseInt(places));
            case "cloud": return x.cloud(a, b);
            case "sight": return x.sight(a, b);
            case "claim": return x.claim(a, b);
            case "drop": return x.drop(a);
            case "wish": return x.wish(a, b, place(places, 2));
            case "pay": return x.pay(a, b);
            case "pound": return x.pound(a);
            case "redeem": return x.redeem(a);
            case "stay": return x.stay(a, b);
            case "dawn": return x.dawn();
            default: throw new IllegalArgumentException(command);
        }
    }

    private static int place(String places, int index) {
        if (index >= places.length()) {
            return 0;
        }
        char sign = places.charAt(index);
        return Character.isDigit(sign) ? sign - '0' : sign - 'a';
    }

    /**
     * Returns an object whose roof 0 has no coins, claims the star b of brightness 9 in sector 1, and has a wish on
     * the star a of this brightness in sector 0; its debt is that brightness and 9.
     */
    static StarBailiff poor(int brightness) {
        StarBailiff x = new StarBailiff();
        x.star(brightness, 0);
        then(x, "star 9 1;star 9 2;roof 18;claim 0b;sight 0a;sight 0c;wish 0a1");
        return x;
    }

    /** Lets the roof 0 of a poor one earn coins, at most 16: new roofs sight its star, and pay twice as many. */
    static void earn(StarBailiff x, int coins) {
        for (int left = coins; left > 0; left -= 4) {
            int roof = x.roof(2 * Math.min(left, 4));
            x.sight(roof, 1);
        }
    }

    /** Fills an empty sky with as many stars, roofs and wishes as can be, and with numbers above 0 all over. */
    static void fill(StarBailiff x) {
        then(x, "star 9 0;star 8 1;star 7 2;star 6 3;star 5 0;star 4 1;star 3 2;star 2 3;roof 0;roof 1;roof 99;roof 40",
                "roof 7;claim 2e;claim 3h;claim 2f;claim 3g;sight 0a;sight 0b;wish 0a1;wish 0b2;pound 0;sight 1a;sight 1c",
                "wish 1a3;wish 1c4;pound 1;sight 2a;wish 2a5;sight 4b;sight 4c;wish 4b6;sight 3d;wish 3d7;dawn",
                "sight 0a;wish 0a8;cloud 0 9;sight 3b;wish 3b9;cloud 1 9;dawn;cloud 0 9;dawn");
        then(x, "cloud 2 2;cloud 3 6;sight 0d;sight 0c;sight 1c;sight 2c;sight 2d;sight 3c;sight 4g;sight 0e;wish 0c1;wish 1c2",
                "wish 2c3;pound 1;wish 4g4;wish 0c5;pound 0;wish 3c6;stay 0 1;stay 1 2;stay 2 3;stay 3 4;stay 4 5");
    }

    /** Fills an empty sky as well, with other numbers. */
    static void fillOtherwise(StarBailiff x) {
        then(x, "star 1 3;star 2 2;star 3 1;star 4 0;star 6 3;star 7 2;star 8 1;star 9 0;roof 50;roof 60;roof 70;roof 80",
                "roof 90;claim 4a;claim 0c;claim 1d;sight 4h;sight 3h;sight 2g;wish 4h9;wish 3h8;wish 2g7;wish 4h6;wish 3h5",
                "wish 2g4;wish 4h3;wish 3h2");
    }

    static String line(StarBailiff x) {
        StringBuilder line = new StringBuilder();
        for (int i = 0; i < 100 && x.written(i) >= 0; i++) {
            line.append((char) x.written(i));
        }
        return line.toString();
    }

    /** Returns all that changes can change, as far as the face tells it. */
    static String picture(StarBailiff x) {
        StringBuilder all = new StringBuilder("clouds");
        for (int sector = 0; sector < 4; sector++) {
            all.append(' ').append(x.cloudOf(sector));
        }
        int stars = x.account(0);
        for (int star = 0; star < stars; star++) {
            all.append(", star");
            for (int what = 0; what < 6; what++) {
                all.append(' ').append(x.starOf(star, what));
            }
        }
        int roofs = x.account(1);
        for (int roof = 0; roof < roofs; roof++) {
            all.append(", roof ").append(x.debt(roof)).append(' ').append(x.debtAgain(roof));
            for (int what = 0; what < 9; what++) {
                all.append(' ').append(x.roofOf(roof, what));
            }
        }
        int wishes = x.account(2);
        for (int wish = 0; wish < wishes; wish++) {
            all.append(", wish");
            for (int what = 0; what < 5; what++) {
                all.append(' ').append(x.wishOf(wish, what));
            }
        }
        all.append(", accounts");
        for (int what = 0; what < 12; what++) {
            all.append(' ').append(x.account(what));
        }
        return all.toString();
    }

    void end() {
        System.out.println(made + " checks, " + wrong + " wrong");
        if (wrong != 0) {
            System.exit(1);
        }
    }
}
