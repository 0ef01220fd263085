import java.lang.reflect.Field;

/** The sentences of promises 19 to 44 that name a boundary: for each both sides of it. */
public final class AnswerSentencesTest {
    private static final int NONE = StarBailiff.NONE;
    private static final int BAD = StarBailiff.BAD;
    private static final int NOTHING = StarBailiff.NOTHING;
    private static final int[] FAR = {Integer.MIN_VALUE, -4, -2, -1, 100, Integer.MAX_VALUE};
    private static final Checks c = new Checks();

    public static void main(String[] args) {
        starOf();
        roofOf();
        wishOf();
        cloudOf();
        debts();
        seen();
        levy();
        could();
        couldOfMany();
        brightens();
        cheapest();
        wouldGrant();
        richest();
        brightest();
        write();
        writeSky();
        written();
        isWell();
        meanCloud();
        poundShare();
        account();
        undo();
        save();
        restore();
        c.end();
    }

    private static void starOf() {
        c.sentence("0 for its brightness; 1 for its sector; 2 for 1 if it can be seen, 0 otherwise; 3 for the roof that claims "
                + "it, NOTHING if none does; 4 for the sightings so far; 5 for the wishes on it");
        StarBailiff x = Checks.after("star 5 3;star 9 1;star 7 3;roof 99;roof 99;cloud 3 5;claim 1c;sight 0c;sight 0a");
        Checks.then(x, "sight 1c;wish 0c1;wish 1c2");
        int[][] due = {{5, 3, 0, NOTHING, 1, 0}, {9, 1, 1, NOTHING, 0, 0}, {7, 3, 1, 1, 2, 2}};
        for (int star = 0; star < 3; star++) {
            for (int what = 0; what < 6; what++) {
                c.due("star " + star + ", what " + what, x.starOf(star, what), due[star][what]);
            }
        }
        Checks.then(x, "cloud 3 9;dawn;cloud 3 4;sight 0c;dawn");
        int[] then = {7, 3, 1, 1, 3, 0};
        for (int what = 0; what < 6; what++) {
            c.due("star 2 then, what " + what, x.starOf(2, what), then[what]);
        }

        c.sentence("Returns the number; NONE if there is no such star; BAD if there is no such what.");
        for (int far : FAR) {
            c.due("star " + far, x.starOf(far, 0), NONE);
            c.due("star " + far + ", no what", x.starOf(far, 6), NONE);
            c.due("what " + far, x.starOf(0, far), BAD);
        }
        c.due("the last", x.starOf(2, 5), 0);
        c.due("star 3", x.starOf(3, 5), NONE);
        c.due("what 6", x.starOf(2, 6), BAD);
    }

    private static void roofOf() {
        c.sentence("0 for its coins; 1 for its stay; 2 for its wishes; 3 for those that are impounded; 4 for those granted so "
                + "far; 5 for those forfeited so far; 6 for the stars that it claims; 7 for the stars that it sighted this "
                + "night, as a set, bit k for the star k; 8 for those of them that could be seen then, as a set");
        for (int star = 0; star < 8; star++) {
            StarBailiff x = Checks.after("star 9 0;star 9 1;star 9 0;star 9 1;star 9 0;star 9 1;star 9 0;star 9 1",
                    "roof 9;cloud 1 9");
            c.due("none sighted", x.roofOf(0, 7), 0);
            c.due("none seen", x.roofOf(0, 8), 0);
            x.sight(0, star);
            c.due("bit of " + star, x.roofOf(0, 7), 1 << star);
            c.due("bit of " + star + ", seen", x.roofOf(0, 8), star % 2 == 0 ? 1 << star : 0);
            Checks.then(x, "cloud 0 9;cloud 1 0");
            c.due("bit as it was seen", x.roofOf(0, 8), star % 2 == 0 ? 1 << star : 0);
            for (int other = 0; other < 8; other++) {
                x.sight(0, other);
            }
            c.due("all bits", x.roofOf(0, 7), 255);
            c.due("all bits seen", x.roofOf(0, 8), star % 2 == 0 ? 170 | 1 << star : 170 & ~(1 << star));
        }
        StarBailiff z = Checks.after("star 1 0;star 1 1;star 1 2;roof 99;roof 99");
        for (int star = 0; star < 3; star++) {
            c.due("stars that it claims", z.roofOf(1, 6), star);
            z.claim(1, star);
            c.due("stars that the other claims", z.roofOf(0, 6), 0);
        }
        z.drop(1);
        c.due("stars that it claims after a drop", z.roofOf(1, 6), 2);
        StarBailiff y = Checks.poor(9);
        Checks.then(y, "star 1 3;roof 4;claim 1d;stay 1 8;sight 1c;wish 0c5;wish 1c6;stay 0 9;cloud 2 9");
        int[][] due = {{0, 9, 2, 0, 0, 0, 1, 5, 5}, {0, 8, 1, 0, 0, 0, 1, 4, 4}};
        int[][] then = {{0, 0, 1, 1, 1, 0, 1, 0, 0}, {0, 7, 1, 0, 0, 0, 1, 0, 0}};
        int[][] end = {{0, 0, 0, 0, 1, 1, 1, 0, 0}, {0, 4, 1, 0, 0, 0, 1, 0, 0}};
        whats(y, due);
        Checks.then(y, "dawn;stay 0 0;pound 0;cloud 2 9");
        whats(y, then);
        Checks.then(y, "dawn;cloud 2 9;dawn;cloud 2 9;dawn");
        whats(y, end);

        c.sentence("Returns the number; NONE if there is no such roof; BAD if there is no such what.");
        for (int far : FAR) {
            c.due("roof " + far, y.roofOf(far, 0), NONE);
            c.due("roof " + far + ", no what", y.roofOf(far, 9), NONE);
            c.due("what " + far, y.roofOf(0, far), BAD);
        }
        c.due("roof 2", y.roofOf(2, 8), NONE);
        c.due("what 9", y.roofOf(1, 9), BAD);
    }

    private static void whats(StarBailiff x, int[][] due) {
        for (int roof = 0; roof < due.length; roof++) {
            for (int what = 0; what < due[roof].length; what++) {
                c.due("roof " + roof + ", what " + what, x.roofOf(roof, what), due[roof][what]);
            }
        }
    }

    private static void wishOf() {
        c.sentence("0 for its roof; 1 for its star; 2 for its kind; 3 for how many nights old it is; 4 for the nights for which "
                + "it has been impounded, NOTHING if it is not; 5 for what it would cost to redeem it, NOTHING if it is not "
                + "impounded");
        StarBailiff x = Checks.poor(6);
        Checks.then(x, "roof 9;sight 1c;wish 1c8;cloud 0 9;cloud 2 9;dawn;pound 0;cloud 0 9;cloud 2 9");
        for (int nights = 0; nights <= 2; nights++) {
            int[][] due = {{0, 0, 1, 1, nights, 6 + nights}, {1, 2, 8, 1 + nights, NOTHING, NOTHING}};
            for (int wish = 0; wish < 2; wish++) {
                for (int what = 0; what < 6; what++) {
                    c.due("wish " + wish + ", what " + what, x.wishOf(wish, what), due[wish][what]);
                }
            }
            if (nights < 2) {
                Checks.then(x, "dawn;cloud 2 9");
            }
        }

        c.sentence("Returns the number; NONE if there is no such wish; BAD if there is no such what.");
        for (int far : FAR) {
            c.due("wish " + far, x.wishOf(far, 0), NONE);
            c.due("wish " + far + ", no what", x.wishOf(far, 6), NONE);
            c.due("what " + far, x.wishOf(0, far), BAD);
        }
        c.due("the last", x.wishOf(1, 2), 8);
        c.due("wish 2", x.wishOf(2, 2), NONE);
        c.due("what 6", x.wishOf(1, 6), BAD);
    }

    private static void cloudOf() {
        c.sentence("Returns the cloud; NONE if there is no such sector.");
        StarBailiff x = Checks.after("cloud 0 9;cloud 1 8;cloud 3 7");
        int[] clouds = {9, 8, 0, 7};
        for (int sector = 0; sector < 4; sector++) {
            c.due("cloud of " + sector, x.cloudOf(sector), clouds[sector]);
        }
        for (int far : FAR) {
            c.due("cloud of " + far, x.cloudOf(far), NONE);
        }
        c.due("cloud of 4", x.cloudOf(4), NONE);
    }

    private static void debts() {
        c.sentence("Returns the same by a second way: what was levied, less what was paid.");
        StarBailiff x = Checks.after("star 9 0;star 1 1;roof 10;roof 9;roof 8");
        int[] first = {0, 0, 1};
        int[] second = {0, 1, 2};
        for (int roof = 0; roof < 3; roof++) {
            bothDebts(x, roof, 0);
            x.sight(roof, 0);
            bothDebts(x, roof, first[roof]);
            x.sight(roof, 1);
            bothDebts(x, roof, second[roof]);
        }
        StarBailiff y = Checks.poor(9);
        Checks.earn(y, 16);
        int[] payments = {1, 0, 15};
        for (int payment : payments) {
            int before = y.debt(0);
            y.pay(0, payment);
            bothDebts(y, 0, before - payment);
        }
        bothDebts(y, 0, 2);
        y.undo();
        bothDebts(y, 0, 17);
        // Neither a claim nor redeeming is paid for a debt, and no half of a payment is.
        StarBailiff z = Checks.poor(2);
        Checks.then(z, "star 1 3;pound 0");
        Checks.earn(z, 6);
        Checks.then(z, "redeem 0;claim 0d");
        for (int roof = 0; roof < 3; roof++) {
            bothDebts(z, roof, roof == 0 ? 11 : roof == 1 ? 1 : 5);
        }

        c.sentence("Returns the debt; NONE if there is no such roof.");
        for (int far : FAR) {
            bothDebts(x, far, NONE);
        }
        bothDebts(x, 3, NONE);
    }

    private static void bothDebts(StarBailiff x, int roof, int due) {
        c.due("debt of " + roof, x.debt(roof), due);
        c.due("debtAgain of " + roof, x.debtAgain(roof), due);
    }

    private static void seen() {
        c.sentence("Returns the same by a second way: by how many there are of each brightness.");
        StarBailiff x = Checks.after("star 1 2;star 2 2;star 5 2;star 5 2;star 8 2;star 9 2;star 9 1;star 9 2");
        int[] due = {7, 6, 5, 5, 5, 3, 3, 3, 2, 0};
        for (int cloud = 0; cloud <= 9; cloud++) {
            x.cloud(2, cloud);
            bothSeen(x, 2, due[cloud]);
            bothSeen(x, 1, 1);
            bothSeen(x, 0, 0);
        }

        c.sentence("Returns how many; NONE if there is no such sector.");
        bothSeen(Checks.after("star 9 0"), 0, 1);
        bothSeen(Checks.after("star 9 3"), 3, 1);
        for (int far : FAR) {
            bothSeen(x, far, NONE);
        }
        bothSeen(x, 4, NONE);
    }

    private static void bothSeen(StarBailiff x, int sector, int due) {
        c.due("seen in " + sector, x.seen(sector), due);
        c.due("seenAgain in " + sector, x.seenAgain(sector), due);
    }

    private static void levy() {
        c.sentence("Returns what the levy would be if a roof sighted a star now, be it sighted already or not.");
        StarBailiff x = Checks.after("star 5 0;star 9 1;roof 99;roof 0;claim 0b");
        int[] due = {5, 5, 5, 5, 5, 0, 0, 0, 0, 0};
        for (int cloud = 0; cloud <= 9; cloud++) {
            x.cloud(0, cloud);
            c.due("levy under " + cloud, x.levy(0, 0), due[cloud]);
            c.due("levy without coins under " + cloud, x.levy(1, 0), due[cloud]);
        }
        c.due("levy of its own", x.levy(0, 1), 0);
        c.due("levy of another's", x.levy(1, 1), 9);
        x.sight(1, 1);
        c.due("levy of one that is sighted", x.levy(1, 1), 9);
        c.due("debt by that", x.debt(1), 9);
        c.due("sightings by that", x.account(6), 1);
        x.sight(0, 0);
        x.cloud(0, 4);
        c.due("levy of one that was exempt", x.levy(0, 0), 5);

        c.sentence("Returns the levy; NONE if there is no such roof or star.");
        for (int far : FAR) {
            c.due("roof " + far, x.levy(far, 0), NONE);
            c.due("star " + far, x.levy(0, far), NONE);
        }
        c.due("roof 2", x.levy(2, 0), NONE);
        c.due("star 2", x.levy(0, 2), NONE);
    }

    private static void bothCould(StarBailiff x, int roof, int due) {
        c.due("could of " + roof, x.could(roof), due);
        c.due("couldAgain of " + roof, x.couldAgain(roof), due);
    }

    private static void could() {
        c.sentence("Returns how many of its wishes a roof could redeem with its coins, at most: the cheapest first.");
        // The costs are 5, 2 and 9, in this order: 2, then 7, then 16.
        for (int coins = 0; coins <= 16; coins++) {
            StarBailiff x = Checks.after("star 5 0;star 9 1;star 2 2;star 9 3;roof 18;claim 0b;sight 0a;sight 0c;sight 0d",
                    "wish 0a1;wish 0c2;wish 0d3;pound 0;wish 0c4");
            Checks.earn(x, coins);
            bothCould(x, 0, coins < 2 ? 0 : coins < 7 ? 1 : coins < 16 ? 2 : 3);
            c.due("coins", x.roofOf(0, 0), coins);
            for (int roof = 1; roof < x.account(1); roof++) {
                bothCould(x, roof, 0);
            }
            // A night makes each cost 1 more.
            x.dawn();
            bothCould(x, 0, coins < 3 ? 0 : coins < 9 ? 1 : 2);
        }
        StarBailiff y = Checks.after("star 5 0;roof 99;sight 0a;wish 0a1");
        bothCould(y, 0, 0);

        c.sentence("Returns how many; NONE if there is no such roof.");
        for (int far : FAR) {
            bothCould(y, far, NONE);
        }
        bothCould(y, 1, NONE);
        bothCould(Checks.after("roof 9"), 0, 0);
    }

    private static void couldOfMany() {
        c.sentence("Returns the same by a second way: by trying all sets of wishes.");
        for (int coins = 0; coins <= 10; coins++) {
            StarBailiff x = Checks.after("star 1 0;star 9 1;star 9 2;roof 18;claim 0b;sight 0a;sight 0c",
                    "wish 0a1;wish 0a2;wish 0a3;wish 0a4;wish 0a5;wish 0a6;wish 0a7;wish 0a8;pound 0");
            Checks.earn(x, coins);
            bothCould(x, 0, Math.min(coins, 8));
        }
        // Those of another roof, and those that are not impounded, are not among the sets.
        StarBailiff y = Checks.after("star 1 0;star 9 1;star 9 2;roof 18;roof 0;claim 0b;sight 0a;sight 0c;sight 1a;sight 1c",
                "wish 1a1;wish 0a2;wish 1a3;wish 0a4;pound 0;pound 1;wish 0a5;wish 1a6;roof 8;sight 2b;roof 8;sight 3b");
        bothCould(y, 0, 2);
        bothCould(y, 1, 0);
        c.due("redeem", y.redeem(3), 1);
        bothCould(y, 0, 1);
    }

    private static void brightens() {
        c.sentence("Returns in how many, 0 if they can; NONE if there is no such sector.");
        for (int brightness = 1; brightness <= 9; brightness++) {
            StarBailiff x = new StarBailiff();
            x.star(brightness, 2);
            Checks.then(x, "star 9 2;star 1 1;cloud 3 9");
            c.due("without a cloud", x.brightens(2), 0);
            for (int cloud = 1; cloud <= 9; cloud++) {
                x.cloud(2, cloud);
                c.due(brightness + " under " + cloud, x.brightens(2), Math.max(cloud - brightness + 1, 0));
            }
            int dawns = x.brightens(2);
            for (int left = dawns; left > 0; left--) {
                c.due("not all are seen yet", x.seen(2) < 2 ? 1 : 0, 1);
                x.dawn();
                c.due("left", x.brightens(2), left - 1);
            }
            c.due("all are seen", x.seen(2), 2);
        }
        StarBailiff y = Checks.after("cloud 0 9;cloud 3 9;star 1 3;star 9 3");
        c.due("without stars", y.brightens(0), 0);
        c.due("the darkest of two", y.brightens(3), 9);
        for (int far : FAR) {
            c.due("sector " + far, y.brightens(far), NONE);
        }
        c.due("sector 4", y.brightens(4), NONE);
    }

    private static void cheapest() {
        c.sentence("Returns the star that can be seen, and that the roof has not sighted this night, with the least levy, of "
                + "several the brightest, then the lowest one.");
        StarBailiff x = Checks.after("star 4 0;star 3 0;star 3 1;star 9 2;star 8 3;star 9 2;roof 99;roof 99");
        c.due("the lowest of the least levy", x.cheapest(0), 1);
        x.cloud(0, 3);
        c.due("under a cloud as bright", x.cheapest(0), 2);
        x.cloud(0, 2);
        c.due("under a cloud less bright", x.cheapest(0), 1);
        x.sight(0, 1);
        c.due("when that is sighted", x.cheapest(0), 2);
        c.due("for the other", x.cheapest(1), 1);
        x.claim(0, 4);
        c.due("its own", x.cheapest(0), 4);
        x.claim(0, 5);
        c.due("the brightest of its own", x.cheapest(0), 5);
        x.claim(0, 3);
        c.due("the lowest of the brightest of its own", x.cheapest(0), 3);
        c.due("for the other still", x.cheapest(1), 1);
        x.cloud(2, 9);
        c.due("its own that can be seen", x.cheapest(0), 4);
        Checks.then(x, "sight 0e;sight 0a");
        c.due("the last that is left", x.cheapest(0), 2);

        c.sentence("Returns the star; NONE if there is no such roof; NOTHING if there is none.");
        x.sight(0, 2);
        c.due("none is left", x.cheapest(0), NOTHING);
        Checks.then(x, "sight 0d;sight 0f;cloud 2 0");
        c.due("none but those that were exempt", x.cheapest(0), NOTHING);
        x.dawn();
        c.due("the next night", x.cheapest(0), 3);
        for (int far : FAR) {
            c.due("roof " + far, x.cheapest(far), NONE);
        }
        c.due("roof 2", x.cheapest(2), NONE);
        c.due("without stars", Checks.after("roof 9").cheapest(0), NOTHING);
        c.due("without stars that can be seen", Checks.after("roof 9;star 5 0;cloud 0 5").cheapest(0), NOTHING);
        c.due("star 0", Checks.after("roof 9;star 5 0;cloud 0 4").cheapest(0), 0);
        StarBailiff y = Checks.after("roof 9;star 9 0;star 9 0;star 9 0;star 9 0;star 9 0;star 9 0;star 9 0;star 8 0");
        c.due("the eighth", y.cheapest(0), 7);
        c.due("undo", y.undo(), 7);
        c.due("when that is gone", y.cheapest(0), 0);
    }

    private static void wouldGrant() {
        c.sentence("Returns how many wishes would be granted if a dawn came now.");
        StarBailiff x = Checks.after("star 5 0;star 9 1;star 9 2;roof 0;roof 99;sight 0a;sight 0b;sight 1a;sight 0c;wish 0a1",
                "wish 1a2;wish 0b3;cloud 0 5;cloud 1 8");
        c.due("new one", new StarBailiff().wouldGrant(), 0);
        c.due("under a cloud as bright", x.wouldGrant(), 1);
        x.cloud(0, 4);
        c.due("under a cloud less bright", x.wouldGrant(), 3);
        c.due("asked again", x.wouldGrant(), 3);
        x.pound(0);
        c.due("without those that are impounded", x.wouldGrant(), 1);
        c.due("wishes as before", x.account(2), 3);
        c.due("dawn", x.dawn(), 1);
        c.due("then", x.wouldGrant(), 0);
    }

    private static void order(StarBailiff x, boolean isOfRoofs, int... due) {
        for (int place = 0; place < due.length; place++) {
            c.due("place " + place, isOfRoofs ? x.richest(place) : x.brightest(place), due[place]);
        }
        c.due("one place more", isOfRoofs ? x.richest(due.length) : x.brightest(due.length), NONE);
        for (int far : FAR) {
            c.due("place " + far, isOfRoofs ? x.richest(far) : x.brightest(far), NONE);
        }
    }

    private static void richest() {
        c.sentence("Returns a roof by its coins less its debt, the most first, of several the one with fewer wishes, then the "
                + "lowest one.");
        StarBailiff x = Checks.after("star 9 0;roof 8;roof 9;roof 9;roof 10;roof 9");
        order(x, true, 3, 1, 2, 4, 0);
        Checks.then(x, "sight 1a;sight 2a;sight 4a;sight 0a;sight 3a");
        order(x, true, 3, 1, 2, 4, 0);
        x.wish(1, 0, 1);
        order(x, true, 3, 2, 4, 1, 0);
        x.wish(4, 0, 1);
        x.wish(4, 0, 1);
        order(x, true, 3, 2, 1, 4, 0);
        Checks.then(x, "wish 2a1;wish 2a1;wish 2a1");
        order(x, true, 3, 1, 4, 2, 0);
        Checks.then(x, "dawn;sight 3a;sight 2a");
        order(x, true, 1, 4, 0, 3, 2);

        c.sentence("Returns the roof; NONE if there is no such place.");
        order(new StarBailiff(), true);
        order(Checks.after("roof 0"), true, 0);
        order(Checks.after("roof 0;roof 1"), true, 1, 0);
    }

    private static void brightest() {
        c.sentence("Returns a star by its brightness, the most first, of several the one with more sightings, then the lowest "
                + "one.");
        StarBailiff x = Checks.after("star 4 0;star 5 1;star 5 2;star 6 3;star 5 0;star 1 0;star 9 0;star 6 1;roof 0;roof 0");
        order(x, false, 6, 3, 7, 1, 2, 4, 0, 5);
        x.sight(0, 4);
        order(x, false, 6, 3, 7, 4, 1, 2, 0, 5);
        Checks.then(x, "sight 0c;sight 1c;sight 0a;sight 1a;sight 0f;sight 1h");
        order(x, false, 6, 7, 3, 2, 4, 1, 0, 5);
        Checks.then(x, "cloud 0 9;dawn;sight 0e");
        order(x, false, 6, 7, 3, 2, 4, 1, 0, 5);
        x.sight(1, 4);
        order(x, false, 6, 7, 3, 4, 2, 1, 0, 5);

        c.sentence("Returns the star; NONE if there is no such place.");
        order(new StarBailiff(), false);
        order(Checks.after("star 1 0"), false, 0);
        order(Checks.after("star 1 0;star 2 3"), false, 1, 0);
    }

    private static void line(StarBailiff x, int length, String due) {
        c.due("length", length, due.length());
        c.same("line", Checks.line(x), due);
        c.due("code behind it", x.written(due.length()), NONE);
    }

    private static void write() {
        c.sentence("Writes a line about a roof, in place of the one before: its number, \"$\" and its coins, and, each if it is "
                + "above 0, \"-\" and its debt, \"s\" and its stay, and \"w\" and its wishes; as in \"0$12-5s2w1\".");
        StarBailiff x = Checks.after("star 9 0;star 1 0;roof 9;roof 10;roof 99;roof 0;roof 8");
        line(x, x.write(0), "0$9");
        line(x, x.write(1), "1$10");
        line(x, x.write(2), "2$99");
        line(x, x.write(3), "3$0");
        x.sight(0, 0);
        line(x, x.write(0), "0$0");
        x.sight(4, 0);
        line(x, x.write(4), "4$0-1");
        x.sight(0, 1);
        line(x, x.write(0), "0$0-1");
        x.stay(4, 1);
        line(x, x.write(4), "4$0-1s1");
        x.wish(4, 0, 5);
        line(x, x.write(4), "4$0-1s1w1");
        x.wish(0, 0, 5);
        line(x, x.write(0), "0$0-1w1");
        x.stay(3, 9);
        line(x, x.write(3), "3$0s9");
        Checks.then(x, "sight 2a;wish 2a5;wish 2a5;wish 2a5;wish 2a5;wish 2a5;wish 2a5");
        line(x, x.write(2), "2$90w6");
        x.stay(2, 1);
        line(x, x.write(2), "2$90s1w6");
        x.dawn();
        line(x, x.write(2), "2$90");
        line(x, x.write(3), "3$0s8");
        writeAsInTheDocument();

        c.sentence("Returns the length of the line; NONE if there is no such roof.");
        for (int far : FAR) {
            c.due("roof " + far, x.write(far), NONE);
        }
        c.due("roof 5", x.write(5), NONE);
        c.same("line as before", Checks.line(x), "3$0s8");
    }

    private static void writeAsInTheDocument() {
        StarBailiff x = Checks.after("star 9 0;star 8 1;star 5 2;roof 16;claim 0b;roof 99;roof 99;roof 99;sight 0c;wish 0c1");
        Checks.then(x, "sight 1b;sight 2b;sight 3b;stay 0 2");
        line(x, x.write(0), "0$12-5s2w1");
    }

    private static void writeSky() {
        c.sentence("Writes the stars of a sector as a line, in place of the one before: for each the letter, a capital one if "
                + "it can be seen, and then \"~\" and the cloud, if it is above 0; as in \"aBd~3\".");
        StarBailiff x = Checks.after("star 3 1;star 4 1;star 9 0;star 2 1;star 9 2;star 1 2;star 5 3;star 9 3");
        line(x, x.writeSky(1), "ABD");
        x.cloud(1, 1);
        line(x, x.writeSky(1), "ABD~1");
        x.cloud(1, 2);
        line(x, x.writeSky(1), "ABd~2");
        x.cloud(1, 3);
        line(x, x.writeSky(1), "aBd~3");
        x.cloud(1, 9);
        line(x, x.writeSky(1), "abd~9");
        line(x, x.writeSky(0), "C");
        line(x, x.writeSky(2), "EF");
        line(x, x.writeSky(3), "GH");
        x.cloud(3, 8);
        line(x, x.writeSky(3), "gH~8");
        StarBailiff y = Checks.after("cloud 2 1");
        line(y, y.writeSky(2), "~1");
        y.dawn();
        line(y, y.writeSky(2), "");

        c.sentence("Returns the length of the line; NONE if there is no such sector.");
        x.writeSky(0);
        for (int far : FAR) {
            c.due("sector " + far, x.writeSky(far), NONE);
        }
        c.due("sector 4", x.writeSky(4), NONE);
        c.same("line as before", Checks.line(x), "C");
    }

    private static void written() {
        c.sentence("Returns the code of a character of the written line, which is empty at first.");
        StarBailiff x = Checks.after("roof 8;star 9 1");
        c.due("at first", x.written(0), NONE);

        c.sentence("Returns the code; NONE if there is none.");
        c.due("length", x.write(0), 3);
        int[] codes = {48, 36, 56};
        for (int index = 0; index < 3; index++) {
            c.due("code at " + index, x.written(index), codes[index]);
        }
        for (int far : FAR) {
            c.due("code at " + far, x.written(far), NONE);
        }
        c.due("code at 3", x.written(3), NONE);
        x.writeSky(1);
        c.due("code of a shorter line", x.written(0), 65);
        c.due("code behind a shorter line", x.written(1), NONE);
        x.writeSky(0);
        c.due("code of an empty line", x.written(0), NONE);
    }

    private static void isWell() {
        c.sentence("Returns 1 if it is so, 0 otherwise.");
        c.due("isWell of a new one", new StarBailiff().isWell(), 1);
        StarBailiff x = Checks.after("star 9 0;star 1 1;star 5 2;star 9 3;star 9 0;star 2 1;star 7 2;star 8 3;roof 99;roof 20",
                "roof 3;roof 0;roof 7;claim 0h;claim 1b");
        for (int night = 0; night < 8; night++) {
            for (int roof = 0; roof < 5; roof++) {
                x.sight(roof, night);
                x.wish(roof, night, night);
                x.pound(roof);
                x.sight(roof, 7 - night);
                x.redeem(roof);
                c.due("isWell", x.isWell(), 1);
            }
            x.cloud(night % 4, 9 - night);
            x.dawn();
            c.due("isWell", x.isWell(), 1);
        }
        notWell();
    }

    // No run of calls makes the two ways differ, so the rows inside are changed by hand.
    private static void notWell() {
        for (int roof = 0; roof < 5; roof++) {
            StarBailiff x = full();
            row(x, "roofs", "debt")[roof]++;
            c.due("isWell with another debt of " + roof, x.isWell(), 0);
            row(x, "roofs", "debt")[roof]--;
            c.due("isWell again", x.isWell(), 1);
            // With costs and coins below 0 the cheapest first is not the way to the most.
            x = full();
            row(x, "roofs", "coins")[roof] = -10;
            row(x, "stars", "brightness")[0] = -5;
            for (int wish = 0; wish < 2; wish++) {
                row(x, "wishes", "roof")[wish] = roof;
                row(x, "wishes", "star")[wish] = 0;
                row(x, "wishes", "impounded")[wish] = 0;
            }
            c.due("could", x.could(roof) == x.couldAgain(roof) ? 1 : 0, 0);
            c.due("isWell with another number of wishes of " + roof, x.isWell(), 0);
        }
        for (int sector = 0; sector < 4; sector++) {
            StarBailiff x = full();
            row(x, "stars", "sector")[0] = sector;
            c.due("isWell in another sector", x.isWell(), 1);
            row(x, "stars", "brightness")[0] = 10;
            c.due("isWell with a brightness of 10 in " + sector, x.isWell(), 0);
        }
    }

    private static StarBailiff full() {
        StarBailiff x = new StarBailiff();
        Checks.fill(x);
        return x;
    }

    private static int[] row(StarBailiff x, String part, String name) {
        try {
            Object sky = inside(x, "sky");
            return (int[]) inside(inside(sky, part), name);
        } catch (ReflectiveOperationException e) {
            throw new IllegalStateException(e);
        }
    }

    private static Object inside(Object whole, String name) throws ReflectiveOperationException {
        Field field = whole.getClass().getDeclaredField(name);
        field.setAccessible(true);
        return field.get(whole);
    }

    private static void meanCloud() {
        c.sentence("Returns the mean cloud of the sectors: the sum divided by 4, both converted to double.");
        StarBailiff x = new StarBailiff();
        int sum = 0;
        c.due("mean", x.meanCloud(), 0.0);
        for (int sector = 0; sector < 4; sector++) {
            for (int cloud = 1; cloud <= 9; cloud++) {
                x.cloud(sector, cloud);
                sum++;
                c.due("mean of " + sum, x.meanCloud(), sum / 4.0);
            }
        }
        c.due("mean of all 9", x.meanCloud(), 9.0);
    }

    private static void poundShare() {
        c.sentence("Returns the share; 0.0f without wishes.");
        c.due("without wishes", new StarBailiff().poundShare(), 0.0f);
        for (int impounded = 0; impounded <= 8; impounded++) {
            for (int others = 0; others <= 8 - impounded; others++) {
                StarBailiff x = Checks.after("star 9 0;star 9 1;roof 0;roof 99;sight 0a;sight 0b;sight 1a");
                for (int wish = 0; wish < impounded; wish++) {
                    x.wish(0, 0, 1);
                }
                x.pound(0);
                for (int wish = 0; wish < others; wish++) {
                    x.wish(wish % 2, 0, 1);
                }
                float due = impounded + others == 0 ? 0.0f : (float) impounded / (float) (impounded + others);
                c.due("share of " + impounded + " and " + others, x.poundShare(), due);
            }
        }
        StarBailiff y = Checks.poor(9);
        c.due("of one that is not impounded", y.poundShare(), 0.0f);
        y.pound(0);
        c.due("of one that is", y.poundShare(), 1.0f);
        Checks.then(y, "dawn;dawn;dawn");
        c.due("when it is gone", y.poundShare(), 0.0f);
    }

    private static void accounts(StarBailiff x, int... due) {
        for (int what = 0; what < due.length; what++) {
            c.due("account " + what, x.account(what), due[what]);
        }
    }

    private static void account() {
        c.sentence("0 the stars; 1 the roofs; 2 the wishes; 3 those that are impounded; 4 the stars that are claimed; 5 the "
                + "nights so far; 6 the sightings so far; 7 the exempt ones so far; 8 the sum of all levies so far; 9 the "
                + "coins paid for levies and debts so far, together; 10 the wishes granted so far; 11 those forfeited so far; "
                + "12 the characters of the input; 13 the changes that can be undone");
        StarBailiff x = Checks.poor(2);
        accounts(x, 3, 1, 1, 0, 1, 0, 2, 0, 11, 0, 0, 0, 0, 8);
        Checks.then(x, "pound 0;wish 0c2;wish 0c3");
        Checks.earn(x, 6);
        accounts(x, 3, 3, 3, 1, 1, 0, 4, 0, 29, 12, 0, 0, 0, 8);
        Checks.then(x, "pay 0 2;cloud 2 9;sight 1c;dawn");
        accounts(x, 3, 3, 3, 1, 1, 1, 5, 1, 29, 14, 0, 0, 0, 8);
        Checks.then(x, "drop b;sight 1b;dawn");
        Checks.feed(x, "daw");
        accounts(x, 3, 3, 1, 1, 0, 2, 6, 1, 38, 14, 2, 0, 3, 8);
        x.save();
        x.restore();
        x.dawn();
        accounts(x, 3, 3, 0, 0, 0, 3, 6, 1, 38, 14, 2, 1, 3, 1);

        c.sentence("Returns the account; BAD if there is no such what.");
        for (int far : FAR) {
            c.due("what " + far, x.account(far), BAD);
        }
        c.due("what 0", x.account(0), 3);
        c.due("what 13", x.account(13), 1);
        c.due("what 14", x.account(14), BAD);
    }

    private static void undo() {
        c.sentence("Returns the number of changes that can still be undone; NOTHING if there is none.");
        c.due("of a new one", new StarBailiff().undo(), NOTHING);
        StarBailiff x = Checks.after("roof 1;roof 2;roof 3;roof 4;roof 5;star 1 0;star 2 0;star 3 0;star 4 0");
        for (int left = 7; left >= 0; left--) {
            c.due("undo", x.undo(), left);
            c.due("stars", x.account(0), Math.max(left - 4, 0));
            c.due("roofs", x.account(1), Math.min(left + 1, 5));
        }
        c.due("undo of no more", x.undo(), NOTHING);
        c.due("roofs", x.account(1), 1);
        x.roof(2);
        c.due("undo of one that came then", x.undo(), 0);
        c.due("undo of no more", x.undo(), NOTHING);
        // An undo cannot be undone: it takes the change away.
        StarBailiff y = Checks.after("roof 1;dawn");
        y.undo();
        y.undo();
        c.due("roofs", y.account(1), 0);
        c.due("nights", y.account(5), 0);
    }

    private static void save() {
        c.sentence("Saves all that changes can change, in place of what was saved before.");
        StarBailiff x = Checks.poor(9);
        Checks.then(x, "roof 9;pound 0;dawn;sight 1c;wish 1c5;cloud 3 9;stay 0 9;cloud 0 9;sight 0a");
        String first = Checks.picture(x);
        c.due("save", x.save(), 3);
        Checks.then(x, "star 1 1;dawn;drop b;stay 0 3");
        x.restore();
        c.same("restored", Checks.picture(x), first);
        StarBailiff y = Checks.after("star 1 1;roof 3");
        y.save();
        Checks.then(y, "star 2 1;sight 0a");
        String second = Checks.picture(y);
        c.due("save in its place", y.save(), 2);
        y.clear();
        c.due("restore", y.restore(), 2);
        c.same("restored", Checks.picture(y), second);

        savedOverOthers();

        c.sentence("Returns how many stars there are.");
        StarBailiff z = new StarBailiff();
        for (int stars = 0; stars <= 8; stars++) {
            c.due("save", z.save(), stars);
            c.due("restore", z.restore(), stars);
            z.star(1, 0);
        }
    }

    /** All numbers come back, in place of others that are full as well. */
    private static void savedOverOthers() {
        StarBailiff x = new StarBailiff();
        Checks.fill(x);
        StarBailiff y = new StarBailiff();
        Checks.fillOtherwise(y);
        String full = Checks.picture(x);
        String other = Checks.picture(y);
        x.save();
        x.clear();
        Checks.fillOtherwise(x);
        x.restore();
        c.same("restored over others", Checks.picture(x), full);
        y.save();
        y.clear();
        Checks.fill(y);
        y.restore();
        c.same("restored over the full one", Checks.picture(y), other);
    }

    private static void restore() {
        c.sentence("Restores what was saved, which stays saved. Nothing can be undone then.");
        StarBailiff x = Checks.after("roof 5;star 3 0;sight 0a;wish 0a1");
        x.save();
        String saved = Checks.picture(x);
        for (int time = 0; time < 3; time++) {
            Checks.then(x, "star 4 1;roof 7;claim 1a;dawn;cloud 2 3;stay 0 4");
            c.due("restore", x.restore(), 1);
            c.same("restored", Checks.picture(x), saved);
            c.due("changes", x.account(13), 0);
            c.due("undo", x.undo(), NOTHING);
        }
        x.clear();
        c.due("restore after a clear", x.restore(), 1);
        c.same("restored", Checks.picture(x), saved);
        x.dawn();
        c.due("undo of a change after it", x.undo(), 0);
        c.same("undone", Checks.picture(x), saved);

        c.sentence("Returns how many stars there are; NOTHING if nothing was saved.");
        StarBailiff y = Checks.after("star 1 0;dawn");
        c.due("restore of nothing", y.restore(), NOTHING);
        c.due("stars", y.account(0), 1);
        c.due("changes", y.account(13), 2);
        y.clear();
        c.due("restore of nothing after a clear", y.restore(), NOTHING);
        c.due("save of an empty sky", y.save(), 0);
        y.star(1, 0);
        c.due("restore of an empty sky", y.restore(), 0);
        c.due("stars", y.account(0), 0);
    }
}
