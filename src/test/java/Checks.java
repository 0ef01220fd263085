/** What all tests share: answers compared with those that are due, and short ways to prepare an object. */
final class Checks {
    private int wrong = 0;
    private int made = 0;

    void due(String call, double got, double want) {
        made++;
        if (got != want) {
            wrong++;
            System.out.println(call + " answered " + got + ", due is " + want);
        }
    }

    void same(String what, String got, String want) {
        made++;
        if (!got.equals(want)) {
            wrong++;
            System.out.println(what + " is " + got + ", due is " + want);
        }
    }

    /** Checks that a code is REFUSED, for this reason and detail, with nothing behind it. */
    void refused(StarBailiff x, String call, int code, int reason, int detail) {
        due(call, code, StarBailiff.REFUSED);
        due(call + " reason", x.reason(0, false), reason);
        due(call + " detail", x.reason(0, true), detail);
        due(call + " reason behind", x.reason(1, false), StarBailiff.NOTHING);
        due(call + " detail behind", x.reason(1, true), StarBailiff.NOTHING);
    }

    /** Appends a text and reads it. */
    static int read(StarBailiff x, String text) {
        feed(x, text);
        return x.read();
    }

    static void feed(StarBailiff x, String text) {
        for (int i = 0; i < text.length(); i++) {
            x.append(text.charAt(i));
        }
    }

    /** Returns a new object that has carried out these commands. */
    static StarBailiff after(String... texts) {
        StarBailiff x = new StarBailiff();
        then(x, texts);
        return x;
    }

    /** Carries out commands, each by a call of its own; one that fails ends the test. */
    static void then(StarBailiff x, String... texts) {
        for (String text : texts) {
            for (String command : text.split(";")) {
                int code = call(x, command);
                if (code < 0) {
                    throw new IllegalStateException("preparation '" + command + "' answered " + code);
                }
            }
        }
    }

    // An object has 512 calls: a command by its call costs one of them, by its characters a dozen.
    private static int call(StarBailiff x, String command) {
        String[] parts = command.split(" ");
        String places = parts.length > 1 ? parts[1] : "";
        int a = place(places, 0);
        int b = parts.length > 2 ? Integer.parseInt(parts[2]) : place(places, 1);
        switch (parts[0]) {
            case "star": return x.star(a, b);
            case "roof": return x.roof(Integer.parseInt(places));
            case "cloud": return x.cloud(a, b);
            case "sight": return x.sight(a, b);
            case "claim": return x.claim(a, b);
            case "drop": return x.drop(a);
            case "wish": return x.wish(a, b, place(places, 2));
            case "pay": return x.pay(a, b);
            case "pound": return x.pound(a);
            case "redeem": return x.redeem(a);
            case "stay": return x.stay(a, b);
            case "dawn": return x.dawn();
            default: throw new IllegalArgumentException(command);
        }
    }

    private static int place(String places, int index) {
        if (index >= places.length()) {
            return 0;
        }
        char sign = places.charAt(index);
        return Character.isDigit(sign) ? sign - '0' : sign - 'a';
    }

    static String line(StarBailiff x) {
        StringBuilder line = new StringBuilder();
        for (int i = 0; i < 100 && x.written(i) >= 0; i++) {
            line.append((char) x.written(i));
        }
        return line.toString();
    }

    /** Returns all that changes can change, as far as the face tells it. */
    static String picture(StarBailiff x) {
        StringBuilder all = new StringBuilder("clouds");
        for (int sector = 0; sector < 4; sector++) {
            all.append(' ').append(x.cloudOf(sector));
        }
        for (int star = 0; star < x.account(0); star++) {
            all.append(", star");
            for (int what = 0; what < 6; what++) {
                all.append(' ').append(x.starOf(star, what));
            }
        }
        for (int roof = 0; roof < x.account(1); roof++) {
            all.append(", roof ").append(x.debt(roof)).append(' ').append(x.debtAgain(roof));
            for (int what = 0; what < 9; what++) {
                all.append(' ').append(x.roofOf(roof, what));
            }
        }
        for (int wish = 0; wish < x.account(2); wish++) {
            all.append(", wish");
            for (int what = 0; what < 5; what++) {
                all.append(' ').append(x.wishOf(wish, what));
            }
        }
        all.append(", accounts");
        for (int what = 0; what < 12; what++) {
            all.append(' ').append(x.account(what));
        }
        return all.toString();
    }

    void end() {
        System.out.println(made + " checks, " + wrong + " wrong");
        if (wrong != 0) {
            System.exit(1);
        }
    }
}
