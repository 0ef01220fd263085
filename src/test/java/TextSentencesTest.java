/**
 * The sentences of "Terms" on texts, reasons, changes, codes of calls and constants: each that names a boundary has a
 * method, with both sides of the boundary.
 */
public final class TextSentencesTest {
    private static final int NONE = StarBailiff.NONE;
    private static final int BAD = StarBailiff.BAD;
    private static final int REFUSED = StarBailiff.REFUSED;
    private static final int NOTHING = StarBailiff.NOTHING;
    private static final Checks c = new Checks();

    public static void main(String[] args) {
        input();
        text();
        commands();
        numbers();
        letters();
        callsOfCommands();
        faultPositions();
        fullReasons();
        reasonsOfSightings();
        reasonsOfCoins();
        reasonsOfPound();
        reasonsOfTexts();
        orderOfReasons();
        changes();
        whatStays();
        errors();
        severalErrors();
        constants();
        c.end();
    }

    /** Checks that a text is read well: as many commands as told. */
    private static void well(StarBailiff x, String text, int commands) {
        c.due("'" + text + "'", Checks.read(x, text), commands);
    }

    private static void input() {
        c.sentence("The input has at most 60 characters, with codes from 32 to 126.");
        StarBailiff x = new StarBailiff();
        int[] wrong = {0, 31, 127, 128, 160, 256 + 'a', 65535};
        for (int code : wrong) {
            c.due("code " + code, x.append((char) code), BAD);
        }
        c.due("input", x.account(12), 0);
        int length = 0;
        for (int code = 32; code <= 126; code++) {
            length++;
            c.due("code " + code, x.append((char) code), length <= 60 ? length : BAD);
        }
        c.due("input", x.account(12), 60);
        x.read();
        for (int code = 92; code <= 126; code++) {
            c.due("code " + code, x.append((char) code), code - 91);
        }
        StarBailiff y = new StarBailiff();
        well(y, "dawn;dawn;dawn;dawn;dawn;dawn;dawn;dawn;dawn;dawn;dawn;roof", BAD);
        well(y, "roof 5;roof 5;dawn;dawn;dawn;dawn;dawn;dawn;dawn;dawn;roof 5", 11);
        c.due("coins of the last", y.roofOf(2, 0), 5);
        // A character beyond the 60 is not among them.
        well(y, "dawn;dawn;dawn;dawn;dawn;dawn;dawn;dawn;dawn;dawn;dawn;roof 77", BAD);
        c.due("fault", y.fault(), 60);
    }

    private static void text() {
        c.sentence("text = command { \";\" command");
        well(new StarBailiff(), "dawn", 1);
        well(new StarBailiff(), "dawn;dawn", 2);
        well(new StarBailiff(), "dawn;dawn;dawn", 3);
        c.faulty("", 0);
        c.faulty(";", 0);
        c.faulty("dawn;", 5);
        c.faulty("dawn;;dawn", 5);
        c.faulty(";dawn", 0);
        c.faulty("dawn ;dawn", 4);
        c.faulty("dawn; dawn", 5);
        c.faulty("dawn:dawn", 4);
        c.faulty("dawndawn", 4);
        c.faulty("dawn,dawn", 4);
        c.faulty("dawn;dawn ", 9);
    }

    private static void commands() {
        c.sentence("command = \"star \" digit \" \" digit | \"roof \" number | \"cloud \" digit \" \" digit | \"sight \" "
                + "digit letter | \"claim \" digit letter | \"drop \" letter | \"wish \" digit letter digit | \"pay \" digit "
                + "\" \" number | \"pound \" digit | \"redeem \" digit | \"stay \" digit \" \" digit | \"dawn\"");
        String[] whole = {"star 9 3", "roof 9", "cloud 0 9", "sight 0a", "claim 0a", "drop a", "wish 0a0", "pay 0 1",
            "pound 0", "redeem 0", "stay 0 1", "dawn"};
        for (String text : whole) {
            for (int length = 0; length < text.length(); length++) {
                String cut = text.substring(0, length);
                c.faulty(cut, length);
                c.faulty(cut + '~' + text.substring(length + 1), length);
            }
            c.faulty(text + "~", text.length());
            c.faulty(text.toUpperCase(), 0);
            c.faulty(" " + text, 0);
            c.faulty("dawn;" + text + " ", 5 + text.length());
        }
    }

    private static void numbers() {
        c.sentence("number = digit [ digit ]");
        StarBailiff x = new StarBailiff();
        well(x, "roof 0;roof 9;roof 09;roof 10;roof 99", 5);
        int[] coins = {0, 9, 9, 10, 99};
        for (int roof = 0; roof < 5; roof++) {
            c.due("coins", x.roofOf(roof, 0), coins[roof]);
        }
        c.faulty("roof ", 5);
        c.faulty("roof 100", 7);
        c.faulty("roof 000", 7);
        c.faulty("roof /", 5);
        c.faulty("roof :", 5);
        c.faulty("roof 1/", 6);
        c.faulty("roof 1:", 6);
        c.faulty("roof -1", 5);
        c.faulty("pay 0 ", 6);
        c.faulty("pay 0 100", 8);
        for (int paid = 1; paid <= 11; paid += 5) {
            StarBailiff y = Checks.poor(9);
            Checks.earn(y, 11);
            well(y, "pay 0 " + paid, 1);
            c.due("debt", y.debt(0), 18 - paid);
        }
        // Where the grammar has a digit, a second one is a fault.
        String[] digits = {"star 99 3", "cloud 00 9", "cloud 0 99", "sight 00a", "claim 00a", "wish 00a0", "wish 0a00",
            "pay 00 1", "pound 00", "redeem 00", "stay 00 1", "stay 0 11"};
        int[] positions = {6, 7, 9, 7, 7, 6, 8, 5, 7, 8, 6, 8};
        for (int i = 0; i < digits.length; i++) {
            c.faulty(digits[i], positions[i]);
        }
    }

    private static void letters() {
        c.sentence("Letters are those from a to h.");
        for (char letter = 'a'; letter <= 'h'; letter++) {
            StarBailiff x = Checks.after("star 1 0;star 1 0;star 1 0;star 1 0;star 1 0;star 1 0;star 1 0;star 1 0",
                    "roof 99");
            well(x, "claim 0" + letter + ";sight 0" + letter + ";wish 0" + letter + "3;drop " + letter, 4);
            c.due("sightings of " + letter, x.starOf(letter - 'a', 4), 1);
            c.due("wishes on " + letter, x.starOf(letter - 'a', 5), 1);
        }
        for (char wrong : new char[] {'`', 'i', 'A', 'H', 'z', '0'}) {
            c.faulty("sight 0" + wrong, 7);
            c.faulty("claim 0" + wrong, 7);
            c.faulty("drop " + wrong, 5);
            c.faulty("wish 0" + wrong + "3", 6);
        }
    }

    /** Each place of a command is told by a number of its own, so that two of them in the wrong order show. */
    private static void callsOfCommands() {
        c.sentence("The commands are the calls of star, with the brightness and the sector; roof, with the coins; cloud, with "
                + "the sector and the cloud; sight and claim, with the roof and the star; drop, with the star; wish, with the "
                + "roof, the star and the kind; pay, with the roof and the coins; pound, with the roof; redeem, with the wish; "
                + "stay, with the roof and the nights; and dawn.");
        String[] ways = {"star 1 3;star 4 2;star 3 1;star 2 0", "roof 5;roof 97", "cloud 3 1;cloud 1 2", "sight 1c;sight 0b",
            "cloud 3 0;claim 1c", "drop c;claim 1a", "wish 1c0;wish 0b2", "stay 1 7;stay 0 1", "dawn", "stay 0 3;sight 0d"};
        StarBailiff called = new StarBailiff();
        StarBailiff read = new StarBailiff();
        for (String way : ways) {
            Checks.then(called, way);
            well(read, way, way.split(";").length);
            if (way.startsWith("wish")) {
                c.same("read with its wishes", Checks.picture(read), Checks.picture(called));
            }
        }
        c.same("read", Checks.picture(read), Checks.picture(called));
        StarBailiff x = Checks.poor(9);
        Checks.then(x, "wish 0a2;wish 0c3");
        well(x, "pound 0", 1);
        c.due("impounded", x.account(3), 3);
        Checks.earn(x, 14);
        well(x, "redeem 1", 1);
        c.due("redeemed", x.wishOf(1, 4), NOTHING);
        c.due("not redeemed", x.wishOf(0, 4), 0);
        well(x, "pay 0 5", 1);
        c.due("debt", x.debt(0), 13);
    }

    private static void faultPositions() {
        c.sentence("The fault position of a text is the index of its first character that cannot continue such a text, or "
                + "its length if it ends too early; words are looked at letter by letter.");
        String[] texts = {"", "s", "st", "sta", "star", "stay", "c", "cl", "d", "p", "r", "dawn;s", "roof 1;"};
        for (String text : texts) {
            c.faulty(text, text.length());
            c.faulty(text + "!", text.length());
            c.faulty(text + "!dawn", text.length());
        }
        c.faulty("stax 1 1", 3);
        c.faulty("stbr 1 1", 2);
        c.faulty("sxar 1 1", 1);
        c.faulty("xtar 1 1", 0);
        c.faulty("star11", 4);
        c.faulty("clxim 0a", 2);
        c.faulty("clair 0a", 4);
        c.faulty("cloum 0 1", 4);
        c.faulty("drawn", 2);
        c.faulty("drown", 3);
        c.faulty("paun 1", 2);
        c.faulty("poy 0 1", 2);
        c.faulty("road 1", 2);
        c.faulty("reof 1", 2);
        c.faulty("sigh 0a", 4);
        c.faulty("wishes", 4);
        c.faulty("dawn;roof 12;cloud 0 1;drop z;dawx", 28);
        // What cannot be said is no fault of the text.
        StarBailiff x = new StarBailiff();
        well(x, "sight 9h", REFUSED);
        c.due("fault", x.fault(), NOTHING);
    }

    private static void fullReasons() {
        c.sentence("1, there are 8 stars, 5 roofs or 8 wishes: this number;");
        StarBailiff x = Checks.after("star 1 0;star 1 0;star 1 0;star 1 0;star 1 0;star 1 0;star 1 0;roof 9;roof 9;roof 9",
                "roof 9;sight 0a;wish 0a1;wish 0a1;wish 0a1;wish 0a1;wish 0a1;wish 0a1;wish 0a1");
        c.due("eighth star", x.star(2, 3), 7);
        c.due("fifth roof", x.roof(3), 4);
        c.due("eighth wish", x.wish(0, 0, 1), 7);
        c.due("reason", x.reason(0, false), NOTHING);
        c.refused(x, "ninth star", x.star(2, 3), 1, 8);
        c.refused(x, "sixth roof", x.roof(3), 1, 5);
        c.refused(x, "ninth wish", x.wish(0, 0, 1), 1, 8);

        c.sentence("2, it is so already: the number that was told;");
        for (int number = 0; number <= 9; number++) {
            StarBailiff y = Checks.after("roof 0");
            if (number > 0) {
                c.due("cloud " + number, y.cloud(2, number), 0);
                c.due("stay " + number, y.stay(0, number), 0);
            }
            c.refused(y, "cloud " + number + " again", y.cloud(2, number), 2, number);
            c.refused(y, "stay " + number + " again", y.stay(0, number), 2, number);
        }
    }

    private static void reasonsOfSightings() {
        c.sentence("3, the roof has sighted the star this night: how many stars it has;");
        StarBailiff x = Checks.after("star 1 0;star 2 0;star 3 0;star 4 0;star 5 0;star 6 0;star 7 0;star 8 0;roof 99",
                "roof 99;cloud 0 3");
        for (int star = 7; star >= 0; star--) {
            c.due("sight", x.sight(0, star) >= 0 ? 1 : 0, 1);
            c.refused(x, "sight of " + star + " again", x.sight(0, star), 3, 8 - star);
        }
        x.sight(1, 0);
        c.refused(x, "sight of another roof again", x.sight(1, 0), 3, 1);
        Checks.then(x, "dawn;sight 0a");
        c.refused(x, "sight again in the next night", x.sight(0, 0), 3, 1);

        c.sentence("4, the roof has not sighted the star this night when it could be seen: how many it has so;");
        StarBailiff y = Checks.after("star 1 0;star 2 0;star 3 0;star 4 0;star 5 0;star 6 0;star 7 0;star 8 0;roof 99",
                "roof 99;cloud 0 3;sight 1h");
        c.refused(y, "wish on a star not sighted", y.wish(0, 3, 0), 4, 0);
        for (int star = 0; star < 8; star++) {
            y.sight(0, star);
            if (star < 3) {
                c.refused(y, "wish on " + star, y.wish(0, star, 0), 4, 0);
            } else {
                c.due("wish on " + star, y.wish(0, star, 0), star - 3);
                c.refused(y, "wish on the first", y.wish(0, 0, 0), 4, star - 2);
            }
        }
        c.refused(y, "wish of the other", y.wish(1, 6, 0), 4, 1);
        y.dawn();
        c.refused(y, "wish in the next night", y.wish(0, 7, 0), 4, 0);

        c.sentence("5, the star is claimed: by which roof;");
        StarBailiff z = Checks.after("star 1 0;roof 99;roof 99;roof 99;roof 99;roof 99");
        for (int roof = 0; roof < 5; roof++) {
            c.due("claim of " + roof, z.claim(roof, 0), 2);
            c.refused(z, "claim of 0", z.claim(0, 0), 5, roof);
            c.refused(z, "claim of 4", z.claim(4, 0), 5, roof);
            c.due("drop", z.drop(0), roof);
        }

        c.sentence("7, nobody claims the star: the star;");
        StarBailiff u = Checks.after("star 1 0;star 1 0;star 1 0;star 1 0;star 1 0;star 1 0;star 1 0;star 1 0;roof 99");
        for (int star = 0; star < 8; star++) {
            c.refused(u, "drop of " + star, u.drop(star), 7, star);
            u.claim(0, star);
            c.due("drop of " + star, u.drop(star), 0);
            c.refused(u, "drop of " + star + " again", u.drop(star), 7, star);
        }
    }

    private static void reasonsOfCoins() {
        c.sentence("6, there are too few coins: how many are lacking;");
        for (int coins = 0; coins <= 10; coins++) {
            StarBailiff x = Checks.after("star 1 0;star 5 0;star 1 0;roof 9;roof 50");
            x.roof(coins);
            if (coins == 10) {
                c.due("claim with " + coins, x.claim(2, 1), 10);
            } else {
                c.refused(x, "claim with " + coins, x.claim(2, 1), 6, 10 - coins);
            }
            StarBailiff y = Checks.poor(9);
            y.pound(0);
            Checks.earn(y, coins);
            if (coins >= 9) {
                c.due("redeem with " + coins, y.redeem(0), 9);
                y.undo();
            } else {
                c.refused(y, "redeem with " + coins, y.redeem(0), 6, 9 - coins);
            }
            for (int paid = 1; paid <= 12; paid++) {
                if (paid > coins) {
                    c.refused(y, "pay of " + paid + " with " + coins, y.pay(0, paid), 6, paid - coins);
                }
            }
            c.due("pay of all", y.pay(0, coins), coins == 0 ? BAD : 18 - coins);
        }

        c.sentence("8, the debt is less than that: the debt;");
        StarBailiff x = Checks.poor(1);
        Checks.earn(x, 16);
        c.due("debt", x.debt(0), 10);
        c.refused(x, "pay of 11", x.pay(0, 11), 8, 10);
        c.due("pay of 10", x.pay(0, 10), 0);
        c.refused(x, "pay without a debt", x.pay(0, 1), 8, 0);
        x.undo();
        c.due("pay of 9", x.pay(0, 9), 1);
        c.refused(x, "pay of 2", x.pay(0, 2), 8, 1);
    }

    private static void reasonsOfPound() {
        c.sentence("9, there is a stay: for how many nights;");
        StarBailiff x = Checks.poor(9);
        for (int nights = 1; nights <= 9; nights++) {
            x.stay(0, nights);
            c.refused(x, "pound under a stay", x.pound(0), 9, nights);
        }
        x.cloud(0, 9);
        x.stay(0, 1);
        x.dawn();
        c.due("pound when it is over", x.pound(0), 1);

        c.sentence("10, the debt is less than 10: the debt;");
        StarBailiff y = Checks.after("star 1 0;star 1 1;roof 0;sight 0a;wish 0a1;cloud 1 9");
        for (int debt = 1; debt < 10; debt++) {
            c.refused(y, "pound with debt " + debt, y.pound(0), 10, debt);
            Checks.then(y, "cloud 0 1;dawn;sight 0a");
        }
        c.due("debt", y.debt(0), 10);
        c.due("pound with debt 10", y.pound(0), 1);
        StarBailiff none = Checks.after("roof 9");
        c.refused(none, "pound without a debt", none.pound(0), 10, 0);

        c.sentence("11, the roof has no wish that is not impounded: how many wishes it has;");
        StarBailiff z = Checks.poor(9);
        for (int wishes = 1; wishes <= 7; wishes++) {
            c.due("pound of one", z.pound(0), 1);
            c.refused(z, "pound with " + wishes, z.pound(0), 11, wishes);
            z.wish(0, 0, 3);
        }
        StarBailiff u = Checks.after("star 9 0;star 9 1;roof 0;roof 99;sight 0a;sight 0b;sight 1a;wish 1a1");
        c.refused(u, "pound without wishes of its own", u.pound(0), 11, 0);

        c.sentence("12, the wish is not impounded: how many nights old it is;");
        StarBailiff v = Checks.poor(5);
        v.cloud(0, 9);
        for (int age = 0; age < 4; age++) {
            c.refused(v, "redeem at " + age, v.redeem(0), 12, age);
            v.dawn();
        }
        Checks.then(v, "pound 0;dawn");
        Checks.earn(v, 6);
        c.due("redeem", v.redeem(0), 6);
        c.refused(v, "redeem again", v.redeem(0), 12, 4);
    }

    private static void reasonsOfTexts() {
        c.sentence("13, a command of a text is refused: its number, from 0;");
        c.behind(new StarBailiff(), "cloud 1 0", 0, 2, 0);
        c.behind(new StarBailiff(), "dawn;cloud 1 0", 1, 2, 0);
        c.behind(new StarBailiff(), "dawn;dawn;dawn;dawn;dawn;dawn;dawn;dawn;dawn;dawn;cloud 1 0", 10, 2, 0);
        well(new StarBailiff(), "cloud 1 1;cloud 1 0", 2);

        c.sentence("14, a command of a text would return another code: its number, from 0.");
        String[] others = {"star 0 0", "star 1 4", "cloud 4 1", "sight 0a", "sight 9h", "claim 0a", "drop a", "wish 0a0",
            "pay 0 1", "pay 0 0", "pound 0", "redeem 0", "stay 0 1"};
        for (String text : others) {
            StarBailiff x = new StarBailiff();
            c.refused(x, text, Checks.read(x, text), 14, 0);
            c.refused(x, "dawn;" + text, Checks.read(x, "dawn;" + text), 14, 1);
            c.refused(x, "dawn;cloud 0 5;" + text, Checks.read(x, "dawn;cloud 0 5;" + text), 14, 2);
        }
        // The first that fails is the one: of a text with both, in either order.
        c.behind(new StarBailiff(), "dawn;cloud 0 0;drop a", 1, 2, 0);
        StarBailiff x = new StarBailiff();
        c.refused(x, "both", Checks.read(x, "dawn;drop a;cloud 0 0"), 14, 1);

        c.sentence("Behind 13 stands the reason of the command.");
        c.behind(new StarBailiff(), "roof 0;roof 0;roof 0;roof 0;roof 0;roof 0", 5, 1, 5);
        c.behind(Checks.after("star 1 0;roof 9"), "sight 0a;sight 0a", 1, 3, 1);
        c.behind(Checks.after("star 1 0;roof 9"), "wish 0a1", 0, 4, 0);
        c.behind(Checks.after("star 1 0;roof 9"), "claim 0a;claim 0a", 1, 5, 0);
        c.behind(Checks.after("star 9 0;roof 9"), "claim 0a", 0, 6, 9);
        c.behind(Checks.after("star 9 0;roof 9"), "drop a", 0, 7, 0);
        c.behind(Checks.after("roof 9"), "pay 0 9", 0, 8, 0);
        c.behind(Checks.after("roof 9"), "stay 0 4;pound 0", 1, 9, 4);
        c.behind(Checks.after("star 9 0;roof 2"), "sight 0a;pound 0", 1, 10, 7);
        c.behind(Checks.poor(9), "pound 0;pound 0", 1, 11, 1);
        c.behind(Checks.poor(9), "redeem 0", 0, 12, 0);
        StarBailiff y = Checks.poor(9);
        c.behind(y, "redeem 0", 0, 12, 0);
        c.refused(y, "a call then", y.cloud(0, 0), 2, 0);
    }

    private static void orderOfReasons() {
        c.sentence("Something is refused for the first that applies of the reasons that its method names, in the order in "
                + "which it names them, with a detail:");
        StarBailiff x = Checks.after("star 9 0;star 9 0;roof 18;roof 0;claim 0a");
        c.refused(x, "claim: 5 ahead of 6", x.claim(1, 0), 5, 0);
        c.refused(x, "claim: 6", x.claim(1, 1), 6, 18);
        StarBailiff y = Checks.after("star 9 0;star 9 0;roof 99;sight 0a;wish 0a1;wish 0a1;wish 0a1;wish 0a1;wish 0a1",
                "wish 0a1;wish 0a1;wish 0a1");
        c.refused(y, "wish: 4 ahead of 1", y.wish(0, 1, 1), 4, 1);
        c.refused(y, "wish: 1", y.wish(0, 0, 1), 1, 8);
        StarBailiff z = Checks.after("roof 5");
        c.refused(z, "pay: 6 ahead of 8", z.pay(0, 6), 6, 1);
        c.refused(z, "pay: 8", z.pay(0, 5), 8, 0);
        StarBailiff u = Checks.after("star 9 0;star 9 0;roof 0;stay 0 3");
        c.refused(u, "pound: 9 ahead of 10 and 11", u.pound(0), 9, 3);
        Checks.then(u, "sight 0a;sight 0b");
        c.refused(u, "pound: 9 ahead of 11", u.pound(0), 9, 3);
        StarBailiff v = Checks.after("star 9 0;star 9 0;roof 0");
        c.refused(v, "pound: 10 ahead of 11", v.pound(0), 10, 0);
        Checks.then(v, "sight 0a;sight 0b");
        c.refused(v, "pound: 11", v.pound(0), 11, 0);
        StarBailiff w = Checks.poor(9);
        c.refused(w, "redeem: 12 ahead of 6", w.redeem(0), 12, 0);
        w.pound(0);
        c.refused(w, "redeem: 6", w.redeem(0), 6, 9);
    }

    private static void changes() {
        c.sentence("The changes are the successful calls of star, roof, cloud, sight, claim, drop, wish, pay, pound, redeem, "
                + "stay, dawn and read, also those by which nothing is different.");
        StarBailiff x = Checks.poor(2);
        Checks.earn(x, 7);
        x.save();
        x.restore();
        int[] codes = {x.star(1, 3), x.cloud(3, 0), x.cloud(3, 1), x.roof(3), x.sight(0, 1), x.sight(0, 1), x.claim(0, 2),
            x.pay(0, 1), x.pay(0, 0), x.pound(0), x.redeem(0)};
        int[] due = {3, REFUSED, 0, 3, 0, REFUSED, REFUSED, 10, BAD, 1, 2};
        for (int i = 0; i < codes.length; i++) {
            c.due("call " + i, codes[i], due[i]);
        }
        c.due("changes", x.account(13), 7);
        x.restore();
        int[] more = {x.claim(1, 0), x.drop(1), x.drop(1), x.stay(0, 2), x.stay(0, 2), x.wish(0, 0, 4), x.dawn()};
        int[] moreDue = {REFUSED, 0, REFUSED, 0, REFUSED, 1, 2};
        for (int i = 0; i < more.length; i++) {
            c.due("next call " + i, more[i], moreDue[i]);
        }
        c.due("changes then", x.account(13), 4);
        nothingIsDifferent();
        noChanges();

        c.sentence("The latest 8 can be undone.");
        for (int changes = 0; changes <= 20; changes++) {
            StarBailiff y = new StarBailiff();
            for (int i = 0; i < changes; i++) {
                y.dawn();
            }
            // What is refused, and a text that fails after some commands, takes none of the 8 away.
            y.cloud(0, 0);
            Checks.read(y, "dawn;dawn;drop a");
            int most = Math.min(changes, 8);
            c.due("changes of " + changes, y.account(13), most);
            for (int left = most - 1; left >= 0; left--) {
                c.due("undo of " + changes, y.undo(), left);
            }
            c.due("one more undo of " + changes, y.undo(), NOTHING);
            c.due("nights of " + changes, y.account(5), changes - most);
        }
        StarBailiff z = new StarBailiff();
        for (int round = 1; round <= 60; round++) {
            Checks.then(z, "dawn;dawn;dawn");
            z.undo();
            c.due("undo in round " + round, z.undo(), Math.min(round, 6));
            c.due("nights in round " + round, z.account(5), round);
        }
    }

    private static void nothingIsDifferent() {
        StarBailiff x = new StarBailiff();
        String before = Checks.picture(x);
        well(x, "cloud 0 5;cloud 0 0", 2);
        c.same("picture", Checks.picture(x), before);
        c.due("changes by nothing", x.account(13), 1);
        c.due("undo of nothing", x.undo(), 0);
        c.same("picture", Checks.picture(x), before);
        StarBailiff y = Checks.after("star 1 0;roof 3");
        c.due("a claim and a drop", Checks.read(y, "claim 0a;drop a"), 2);
        c.due("changes", y.account(13), 3);
    }

    private static void noChanges() {
        StarBailiff x = Checks.after("star 1 0;roof 3");
        x.append('d');
        x.fault();
        x.reason(0, false);
        x.starOf(0, 0);
        x.write(0);
        x.writeSky(0);
        x.save();
        x.account(0);
        x.levy(0, 0);
        x.wouldGrant();
        x.read();
        c.due("changes by other calls", x.account(13), 2);
        c.due("undo", x.undo(), 1);
        c.due("changes by undo", x.account(13), 1);
    }

    private static void whatStays() {
        c.sentence("The input, the fault position, the reasons and the written line are neither undone nor saved, and stay.");
        StarBailiff x = new StarBailiff();
        x.save();
        x.roof(7);
        x.write(0);
        Checks.read(x, "dawn;roof z");
        Checks.read(x, "dawn;cloud 2 0");
        Checks.feed(x, "dawn");
        stays(x);
        c.due("undo", x.undo(), 0);
        stays(x);
        c.due("restore", x.restore(), 0);
        stays(x);
        x.clear();
        stays(x);
        c.due("read", x.read(), 1);
    }

    private static void stays(StarBailiff x) {
        c.due("input", x.account(12), 4);
        c.due("fault", x.fault(), 10);
        c.due("reason", x.reason(0, false), 13);
        c.due("detail", x.reason(0, true), 1);
        c.due("reason behind", x.reason(1, false), 2);
        c.due("detail behind", x.reason(1, true), 0);
        c.same("line", Checks.line(x), "0$7");
    }

    private static void errors() {
        c.sentence("A call that returns an error leaves everything as it was, except that read empties the input, and that "
                + "reasons and fault positions are kept.");
        StarBailiff x = Checks.poor(9);
        x.save();
        x.restore();
        Checks.then(x, "roof 3");
        x.write(0);
        Checks.feed(x, "dawn");
        String before = Checks.picture(x);
        int[] codes = {x.star(0, 0), x.star(1, 4), x.roof(100), x.cloud(0, 0), x.cloud(4, 1), x.cloud(0, 10), x.sight(0, 0),
            x.sight(0, 8), x.sight(5, 0), x.claim(0, 0), x.claim(0, 1), x.claim(2, 0), x.drop(0), x.drop(3), x.wish(0, 1, 0),
            x.wish(0, 0, 10), x.wish(2, 0, 0), x.pay(0, 1), x.pay(1, 1), x.pay(1, 0), x.pay(2, 1), x.pound(1), x.pound(2),
            x.redeem(0), x.redeem(1), x.stay(0, 0), x.stay(0, 10), x.stay(2, 1), x.write(2), x.writeSky(4),
            x.append((char) 31)};
        for (int code : codes) {
            c.due("an error", code < 0 ? 1 : 0, 1);
        }
        c.same("picture", Checks.picture(x), before);
        c.same("line", Checks.line(x), "0$0-18w1");
        c.due("input", x.account(12), 4);
        c.due("changes", x.account(13), 1);
        c.due("reason that is kept", x.reason(0, false), 2);
        c.due("read", x.read(), 1);
        c.due("undo", x.undo(), 1);
        for (String text : new String[] {"dawn;drop b;drop b", "dawn;stay 0 3;drop d", "dawn;dawx"}) {
            c.due(text, Checks.read(x, text) < 0 ? 1 : 0, 1);
            c.same("picture after " + text, Checks.picture(x), before);
            c.due("input after " + text, x.account(12), 0);
            c.due("changes after " + text, x.account(13), 1);
        }
        c.due("reason that is kept", x.reason(0, false), 14);
        c.due("fault that is kept", x.fault(), 8);
        StarBailiff y = new StarBailiff();
        Checks.fill(y);
        before = Checks.picture(y);
        c.due("restore of nothing", y.restore(), NOTHING);
        c.due("ninth star", y.star(1, 1), REFUSED);
        c.due("sixth roof", y.roof(1), REFUSED);
        c.refused(y, "ninth wish", y.wish(0, 2, 1), 1, 8);
        c.same("picture after them", Checks.picture(y), before);
        StarBailiff z = Checks.after("roof 3;dawn");
        z.undo();
        z.undo();
        c.due("undo of nothing", z.undo(), NOTHING);
        c.same("picture after it", Checks.picture(z), Checks.picture(new StarBailiff()));
    }

    private static void severalErrors() {
        c.sentence("If several errors apply, the one that is named first is returned.");
        StarBailiff x = Checks.after("star 9 0;star 9 1;star 9 2;star 9 3;star 9 0;star 9 1;star 9 2;star 9 3;roof 9;roof 9",
                "roof 9;roof 9;roof 9;sight 0a;wish 0a1;wish 0a1;wish 0a1;wish 0a1;wish 0a1;wish 0a1;wish 0a1;wish 0a1");
        c.due("star: NONE, BAD, REFUSED", x.star(0, 4), NONE);
        c.due("star: NONE, REFUSED", x.star(9, -1), NONE);
        c.due("star: BAD, REFUSED", x.star(10, 3), BAD);
        c.due("star: REFUSED", x.star(9, 3), REFUSED);
        c.due("roof: BAD, REFUSED", x.roof(100), BAD);
        c.due("roof: REFUSED", x.roof(99), REFUSED);
        c.due("cloud: NONE, BAD", x.cloud(4, 10), NONE);
        c.due("cloud: BAD", x.cloud(3, 10), BAD);
        c.due("wish: NONE for the roof, BAD", x.wish(5, 0, 10), NONE);
        c.due("wish: NONE for the star, BAD", x.wish(0, 8, -1), NONE);
        c.due("wish: NONE, REFUSED", x.wish(0, 8, 1), NONE);
        c.due("wish: BAD, REFUSED", x.wish(0, 0, 10), BAD);
        c.due("wish: BAD, REFUSED for 4", x.wish(0, 1, 10), BAD);
        c.due("wish: REFUSED", x.wish(0, 0, 9), REFUSED);
        c.due("pay: NONE, BAD", x.pay(5, 0), NONE);
        c.due("pay: BAD, REFUSED", x.pay(0, 100), BAD);
        c.due("pay: REFUSED", x.pay(0, 99), REFUSED);
        c.due("stay: NONE, BAD", x.stay(5, 10), NONE);
        c.due("stay: BAD", x.stay(4, 10), BAD);
        c.due("starOf: NONE, BAD", x.starOf(8, 6), NONE);
        c.due("starOf: BAD", x.starOf(7, 6), BAD);
        c.due("roofOf: NONE, BAD", x.roofOf(5, 9), NONE);
        c.due("roofOf: BAD", x.roofOf(4, 9), BAD);
        c.due("wishOf: NONE, BAD", x.wishOf(8, 6), NONE);
        c.due("wishOf: BAD", x.wishOf(7, 6), BAD);
    }

    private static void constants() {
        c.sentence("NONE = -1: There is no such number.");
        c.due("NONE", NONE, -1);
        c.due("no such number", new StarBailiff().pound(0), -1);
        c.sentence("BAD = -2: A number is out of range, or a text has a fault.");
        c.due("BAD", BAD, -2);
        c.due("out of range", new StarBailiff().roof(100), -2);
        c.due("a text with a fault", Checks.read(new StarBailiff(), "roof 100"), -2);
        c.sentence("REFUSED = -3: It is refused for a reason.");
        c.due("REFUSED", REFUSED, -3);
        c.due("refused", new StarBailiff().cloud(0, 0), -3);
        c.sentence("NOTHING = -4: There is nothing of this kind.");
        c.due("NOTHING", NOTHING, -4);
        c.due("nothing", new StarBailiff().undo(), -4);
    }
}
