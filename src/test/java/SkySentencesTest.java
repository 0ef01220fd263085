/**
 * The sentences of "Terms" on the sky, its roofs and its wishes, and those of its "Details": each that names a boundary
 * has a method, with both sides of the boundary.
 */
public final class SkySentencesTest {
    private static final int NONE = StarBailiff.NONE;
    private static final int BAD = StarBailiff.BAD;
    private static final int NOTHING = StarBailiff.NOTHING;
    private static final Checks c = new Checks();

    public static void main(String[] args) {
        callsOfAnObject();
        roundedDown();
        stars();
        clouds();
        seen();
        roofs();
        sightings();
        claims();
        wishes();
        poundAndRedeem();
        dawn();
        details();
        c.end();
    }

    private static void callsOfAnObject() {
        c.sentence("An object is used for at most 512 calls after it has been made");
        StarBailiff x = new StarBailiff();
        for (int call = 1; call < 512; call++) {
            c.due("dawn, call " + call, x.dawn(), 0);
        }
        c.due("call 512", x.account(5), 511);
        StarBailiff y = Checks.after("star 9 0;star 9 0;roof 99;roof 0");
        for (int night = 0; night < 126; night++) {
            Checks.then(y, "sight 0a;sight 0b;sight 1a;dawn");
        }
        c.due("levied by 508 calls", y.account(8), 126 * 27);
        c.due("paid by them", y.account(9), 99);
        c.due("debt", y.debt(0), 126 * 18 - 99);
        c.due("call 512", y.isWell(), 1);
    }

    private static void roundedDown() {
        c.sentence("All numbers are whole, but where it is said; divisions are rounded down.");
        for (int coins = 0; coins <= 4; coins++) {
            StarBailiff x = Checks.after("star 9 0;roof 18;claim 0a");
            x.roof(coins);
            x.sight(1, 0);
            c.due("half of " + coins, x.roofOf(0, 0), coins < 2 ? 0 : coins < 4 ? 1 : 2);
        }
        c.due("a mean that is not whole", Checks.after("cloud 2 3").meanCloud(), 0.75);
    }

    private static void stars() {
        mostStars();
        lettersOfStars();
        brightnessAndSector();
    }

    private static void mostStars() {
        c.sentence("At most 8 stars are there, numbered from 0");
        StarBailiff x = new StarBailiff();
        for (int star = 0; star < 8; star++) {
            c.due("star that is not there yet", x.starOf(star, 0), NONE);
            c.due("star", x.star(1, 0), star);
            c.due("star that is there", x.starOf(star, 0), 1);
        }
        c.due("star 8", x.starOf(8, 0), NONE);
        c.due("star -1", x.starOf(-1, 0), NONE);
        c.refused(x, "ninth star", x.star(1, 0), 1, 8);
        c.due("stars", x.account(0), 8);
    }

    private static void lettersOfStars() {
        c.sentence("told by letters, a for 0 to h for 7");
        StarBailiff x = Checks.after("star 1 0;star 2 0;star 3 0;star 4 0;star 5 0;star 6 0;star 7 0;star 8 0;roof 9");
        for (int star = 0; star < 8; star++) {
            char letter = "abcdefgh".charAt(star);
            c.due("sight " + letter, Checks.read(x, "sight 0" + letter), 1);
            c.due("sightings of " + star, x.starOf(star, 4), 1);
        }
        x.writeSky(0);
        c.same("line", Checks.line(x), "ABCDEFGH");
        c.due("i", Checks.read(x, "drop i"), BAD);
        c.due("the sign ahead of a", Checks.read(x, "drop `"), BAD);
    }

    private static void brightnessAndSector() {
        c.sentence("each with a brightness from 1 to 9 in one of the sectors 0 to 3.");
        int[] brightness = {Integer.MIN_VALUE, -1, 0, 1, 9, 10, Integer.MAX_VALUE};
        for (int each : brightness) {
            StarBailiff x = new StarBailiff();
            boolean isOne = each == 1 || each == 9;
            c.due("star of brightness " + each, x.star(each, 0), isOne ? 0 : BAD);
            c.due("its brightness", x.starOf(0, 0), isOne ? each : NONE);
        }
        int[] sectors = {Integer.MIN_VALUE, -1, 0, 3, 4, Integer.MAX_VALUE};
        for (int sector : sectors) {
            StarBailiff x = new StarBailiff();
            boolean isOne = sector == 0 || sector == 3;
            c.due("star in sector " + sector, x.star(5, sector), isOne ? 0 : NONE);
            c.due("its sector", x.starOf(0, 1), isOne ? sector : NONE);
        }
    }

    private static void clouds() {
        c.sentence("Each sector has a cloud from 0 to 9, at first 0.");
        StarBailiff x = new StarBailiff();
        for (int sector = 0; sector < 4; sector++) {
            c.due("at first", x.cloudOf(sector), 0);
            c.due("cloud -1", x.cloud(sector, -1), BAD);
            c.due("cloud 10", x.cloud(sector, 10), BAD);
            c.due("cloud 9", x.cloud(sector, 9), 0);
            c.due("cloud then", x.cloudOf(sector), 9);
            c.due("cloud 0", x.cloud(sector, 0), 9);
            c.due("cloud at the end", x.cloudOf(sector), 0);
        }
        c.due("cloud of sector -1", x.cloudOf(-1), NONE);
        c.due("cloud of sector 4", x.cloudOf(4), NONE);
    }

    private static void seen() {
        c.sentence("A star can be seen if its brightness is more than the cloud of its sector.");
        for (int brightness = 1; brightness <= 9; brightness++) {
            StarBailiff x = new StarBailiff();
            x.star(brightness, 1);
            Checks.then(x, "cloud 0 9;cloud 2 9;cloud 3 9");
            c.due(brightness + " without a cloud", x.starOf(0, 2), 1);
            for (int cloud = 1; cloud <= 9; cloud++) {
                x.cloud(1, cloud);
                c.due(brightness + " under " + cloud, x.starOf(0, 2), brightness > cloud ? 1 : 0);
            }
        }
    }

    private static void roofs() {
        c.sentence("At most 5 roofs are there, numbered from 0, each with coins, from 0 to 99 as it comes, with a debt, "
                + "at first 0, and with a stay of some nights, at first 0.");
        StarBailiff x = new StarBailiff();
        c.due("coins -1", x.roof(-1), BAD);
        c.due("coins 100", x.roof(100), BAD);
        int[] coins = {0, 99, 1, 98, 50};
        for (int roof = 0; roof < 5; roof++) {
            c.due("roof that is not there yet", x.roofOf(roof, 0), NONE);
            c.due("roof", x.roof(coins[roof]), roof);
            c.due("coins", x.roofOf(roof, 0), coins[roof]);
            c.due("debt", x.debt(roof), 0);
            c.due("stay", x.roofOf(roof, 1), 0);
        }
        c.due("roof 5", x.roofOf(5, 0), NONE);
        c.due("roof -1", x.roofOf(-1, 0), NONE);
        c.refused(x, "sixth roof", x.roof(0), 1, 5);
        c.due("roofs", x.account(1), 5);
    }

    private static void sightings() {
        onceANight();
        levied();
        halfForTheClaimant();
        exempt();
    }

    private static void onceANight() {
        c.sentence("A roof can sight each star once a night.");
        StarBailiff x = Checks.after("star 4 0;star 4 0;roof 99;roof 99");
        c.due("sight", x.sight(0, 0), 4);
        c.refused(x, "sight again", x.sight(0, 0), 3, 1);
        c.due("another star", x.sight(0, 1), 4);
        c.due("another roof", x.sight(1, 0), 4);
        c.refused(x, "another roof again", x.sight(1, 0), 3, 1);
        c.due("sightings", x.account(6), 3);
        x.dawn();
        c.due("next night", x.sight(0, 0), 4);
        c.refused(x, "next night again", x.sight(0, 0), 3, 1);
    }

    private static void levied() {
        c.sentence("If the star can be seen, and the roof does not claim it, it is levied: the levy is the brightness; as "
                + "many coins as there are, but not more, are paid for it, and what is lacking comes to the debt.");
        for (int coins = 0; coins <= 10; coins++) {
            StarBailiff x = Checks.after("star 9 0;star 1 0");
            x.roof(coins);
            c.due("levy with " + coins, x.sight(0, 0), 9);
            c.due("coins of " + coins, x.roofOf(0, 0), Math.max(coins - 9, 0));
            c.due("debt of " + coins, x.debt(0), Math.max(9 - coins, 0));
            c.due("paid of " + coins, x.account(9), Math.min(coins, 9));
            c.due("levied", x.account(8), 9);
            c.due("next levy", x.sight(0, 1), 1);
            c.due("coins then", x.roofOf(0, 0), 0);
            c.due("debt then", x.debt(0), 10 - coins);
        }
        StarBailiff y = Checks.after("star 9 0;star 9 1;roof 99;cloud 0 8;cloud 1 9;claim 0a");
        c.due("its own", y.sight(0, 0), 0);
        c.due("one that cannot be seen", y.sight(0, 1), 0);
        c.due("coins", y.roofOf(0, 0), 81);
        y.drop(0);
        Checks.then(y, "dawn;cloud 0 8");
        c.due("its own no more", y.sight(0, 0), 9);
        c.due("one that can be seen by now", y.sight(0, 1), 9);
    }

    private static void halfForTheClaimant() {
        c.sentence("If another roof claims the star, that roof gets half of what is paid.");
        for (int coins = 0; coins <= 10; coins++) {
            StarBailiff x = Checks.after("star 9 0;star 9 1;roof 18;roof 0;claim 0a");
            x.roof(coins);
            x.sight(2, 0);
            c.due("claimant's by " + coins, x.roofOf(0, 0), Math.min(coins, 9) / 2);
            c.due("payer's of " + coins, x.roofOf(2, 0), Math.max(coins - 9, 0));
            c.due("that of the third", x.roofOf(1, 0), 0);
            x.sight(2, 1);
            c.due("by a star without a claim", x.roofOf(0, 0), Math.min(coins, 9) / 2);
            c.due("paid", x.account(9), coins);
        }
    }

    private static void exempt() {
        c.sentence("If the star cannot be seen, the sighting is exempt.");
        for (int cloud = 1; cloud <= 9; cloud++) {
            StarBailiff x = Checks.after("star 5 0;roof 99");
            x.cloud(0, cloud);
            c.due("sight under " + cloud, x.sight(0, 0), cloud < 5 ? 5 : 0);
            c.due("exempt under " + cloud, x.account(7), cloud < 5 ? 0 : 1);
            c.due("coins under " + cloud, x.roofOf(0, 0), cloud < 5 ? 94 : 99);
            c.due("levied under " + cloud, x.account(8), cloud < 5 ? 5 : 0);
        }
        StarBailiff y = Checks.after("star 5 0;roof 99;claim 0a;sight 0a");
        c.due("exempt of its own that can be seen", y.account(7), 0);
        Checks.then(y, "dawn;cloud 0 5;sight 0a");
        c.due("exempt of its own that cannot", y.account(7), 1);
    }

    private static void claims() {
        c.sentence("Each star is claimed by one roof or by none, as at first.");
        StarBailiff x = Checks.after("star 1 0;star 9 1;roof 99;roof 99");
        c.due("at first", x.starOf(0, 3), NOTHING);
        x.claim(1, 0);
        c.due("claimed", x.starOf(0, 3), 1);
        c.refused(x, "by two", x.claim(0, 0), 5, 1);
        c.due("claimed by the same", x.starOf(0, 3), 1);
        c.due("the other star", x.starOf(1, 3), NOTHING);
        x.drop(0);
        c.due("by none", x.starOf(0, 3), NOTHING);
        c.due("by the other", x.claim(0, 0), 2);

        c.sentence("To claim a star costs twice its brightness.");
        for (int brightness = 1; brightness <= 9; brightness++) {
            StarBailiff y = new StarBailiff();
            y.star(brightness, 0);
            y.roof(2 * brightness - 1);
            y.roof(2 * brightness);
            y.roof(2 * brightness + 1);
            c.refused(y, "with 1 too few", y.claim(0, 0), 6, 1);
            c.due("coins of that", y.roofOf(0, 0), 2 * brightness - 1);
            c.due("with all coins", y.claim(1, 0), 2 * brightness);
            c.due("coins of that", y.roofOf(1, 0), 0);
            y.drop(0);
            c.due("with 1 more", y.claim(2, 0), 2 * brightness);
            c.due("coins of that", y.roofOf(2, 0), 1);
        }
    }

    private static void wishes() {
        mostWishes();
        numbersOfTheLaterOnes();
        starsToWishOn();
        kinds();
    }

    private static void mostWishes() {
        c.sentence("At most 8 wishes are there, numbered from 0;");
        StarBailiff x = Checks.after("star 9 0;star 5 1;roof 99;roof 99;sight 0a;sight 1a;sight 1b");
        for (int wish = 0; wish < 8; wish++) {
            c.due("wish that is not there yet", x.wishOf(wish, 0), NONE);
            c.due("wish", x.wish(wish % 2, 0, 3), wish);
            c.due("wish that is there", x.wishOf(wish, 0), wish % 2);
        }
        c.due("wish 8", x.wishOf(8, 0), NONE);
        c.due("wish -1", x.wishOf(-1, 0), NONE);
        c.refused(x, "ninth wish", x.wish(0, 0, 3), 1, 8);
        c.refused(x, "ninth wish, on another star", x.wish(1, 1, 3), 1, 8);
        c.due("wishes", x.account(2), 8);
        Checks.then(x, "dawn;sight 0a");
        c.due("wish when they are gone", x.wish(0, 0, 3), 0);
    }

    private static void numbersOfTheLaterOnes() {
        c.sentence("when one goes, the numbers of the later ones become 1 less.");
        for (int gone = 0; gone < 4; gone++) {
            StarBailiff x = Checks.after("star 5 0;star 6 1;star 7 2;star 8 3;roof 99;sight 0a;sight 0b;sight 0c",
                    "sight 0d;wish 0a1;wish 0b2;wish 0c3;wish 0d4");
            for (int sector = 0; sector < 4; sector++) {
                if (sector != gone) {
                    x.cloud(sector, 9);
                }
            }
            c.due("dawn", x.dawn(), 1);
            for (int wish = 0; wish < 3; wish++) {
                int before = wish < gone ? wish : wish + 1;
                c.due("star of " + wish + " without " + gone, x.wishOf(wish, 1), before);
                c.due("kind of " + wish + " without " + gone, x.wishOf(wish, 2), before + 1);
                c.due("age of " + wish + " without " + gone, x.wishOf(wish, 3), 1);
            }
            c.due("wish 3", x.wishOf(3, 0), NONE);
        }
        // One of eight goes by the first dawn, and then by each dawn the second of those that are left.
        StarBailiff y = Checks.after("star 5 0;star 9 1;roof 0;sight 0a;sight 0b;wish 0b0;wish 0a1;wish 0b2;wish 0b3",
                "wish 0b4;wish 0b5;wish 0b6;wish 0b7;cloud 1 9;dawn");
        c.due("kind of 0", y.wishOf(0, 2), 0);
        for (int wish = 1; wish < 7; wish++) {
            c.due("kind of " + wish, y.wishOf(wish, 2), wish + 1);
        }
        c.due("wish 7", y.wishOf(7, 2), NONE);
        // One that is forfeited goes likewise: the middle one of three, of another roof.
        StarBailiff z = Checks.after("star 5 0;star 9 1;roof 0;roof 99;sight 0a;sight 0b;sight 1a;wish 1a1;wish 0a2",
                "wish 1a3;pound 0;cloud 0 9;dawn;dawn;cloud 0 9;dawn");
        c.due("wishes", z.account(2), 2);
        c.due("kind of the first", z.wishOf(0, 2), 1);
        c.due("kind of the second", z.wishOf(1, 2), 3);
        c.due("roof of the second", z.wishOf(1, 0), 1);
        c.due("age of the second", z.wishOf(1, 3), 3);
        c.due("nights of the second", z.wishOf(1, 4), NOTHING);
    }

    private static void starsToWishOn() {
        c.sentence("A roof can wish on a star that it sighted this night when the star could be seen;");
        StarBailiff x = Checks.after("star 5 0;star 5 1;roof 99;roof 99;cloud 1 5;cloud 0 4;sight 0a;sight 0b");
        c.due("seen by 1", x.wish(0, 0, 1), 0);
        c.refused(x, "under a cloud as bright", x.wish(0, 1, 1), 4, 1);
        Checks.then(x, "cloud 0 5;cloud 1 4");
        c.due("seen then, not now", x.wish(0, 0, 1), 1);
        c.refused(x, "seen now, not then", x.wish(0, 1, 1), 4, 1);
        c.refused(x, "sighted by another roof", x.wish(1, 0, 1), 4, 0);
        x.cloud(0, 9);
        x.dawn();
        c.refused(x, "sighted the night before", x.wish(0, 0, 1), 4, 0);
        Checks.then(x, "cloud 0 4;sight 0a");
        c.due("sighted this night again", x.wish(0, 0, 1), 2);
        c.due("one of its own", Checks.after("star 5 0;roof 99;claim 0a;sight 0a").wish(0, 0, 1), 0);
    }

    private static void kinds() {
        c.sentence("a wish has a kind from 0 to 9.");
        int[] kinds = {Integer.MIN_VALUE, -1, 0, 9, 10, Integer.MAX_VALUE};
        for (int kind : kinds) {
            StarBailiff x = Checks.after("star 5 0;roof 99;sight 0a");
            boolean isOne = kind == 0 || kind == 9;
            c.due("wish of kind " + kind, x.wish(0, 0, kind), isOne ? 0 : BAD);
            c.due("its kind", x.wishOf(0, 2), isOne ? kind : NONE);
        }
    }

    private static void poundAndRedeem() {
        c.sentence("The bailiff can impound the wishes of a roof whose debt is 10 or more.");
        StarBailiff x = Checks.after("star 9 0;star 1 1;star 1 2;star 1 3;roof 0;sight 0a;wish 0a1");
        c.refused(x, "debt 9", x.pound(0), 10, 9);
        x.sight(0, 1);
        c.due("debt 10", x.pound(0), 1);
        Checks.then(x, "sight 0c;wish 0c2");
        c.due("debt 11", x.pound(0), 1);
        StarBailiff y = Checks.poor(2);
        Checks.earn(y, 2);
        c.due("debt of y", y.debt(0), 11);
        c.due("debt that becomes 10", y.pay(0, 1), 10);
        c.due("pound", y.pound(0), 1);
        y.undo();
        c.due("debt that becomes 9", y.pay(0, 1), 9);
        c.refused(y, "pound", y.pound(0), 10, 9);

        c.sentence("To redeem a wish costs the brightness of its star, and 1 for each night for which it has been "
                + "impounded.");
        for (int brightness = 1; brightness <= 9; brightness += 4) {
            for (int nights = 0; nights <= 2; nights++) {
                int cost = brightness + nights;
                StarBailiff z = impounded(brightness, nights, cost - 1);
                c.refused(z, "redeem with 1 too few", z.redeem(0), 6, 1);
                c.due("coins of that", z.roofOf(0, 0), cost - 1);
                z = impounded(brightness, nights, cost);
                c.due("cost told", z.wishOf(0, 5), cost);
                c.due("redeem with all coins", z.redeem(0), cost);
                c.due("coins then", z.roofOf(0, 0), 0);
                z = impounded(brightness, nights, cost + 1);
                c.due("redeem with 1 more", z.redeem(0), cost);
                c.due("coins then", z.roofOf(0, 0), 1);
            }
        }
    }

    /** Returns an object whose wish 0 has been impounded for these nights, and whose roof 0 has these coins. */
    private static StarBailiff impounded(int brightness, int nights, int coins) {
        StarBailiff x = Checks.poor(brightness);
        x.pound(0);
        for (int night = 0; night < nights; night++) {
            x.dawn();
        }
        Checks.earn(x, coins);
        return x;
    }

    private static void dawn() {
        grantedOrOlder();
        forfeited();
        cloudsAndStays();
        nightsAndSightings();
    }

    private static void grantedOrOlder() {
        c.sentence("one that is not impounded is granted if its star can be seen, and is gone by that, and otherwise is a "
                + "night older;");
        for (int cloud = 1; cloud <= 9; cloud++) {
            StarBailiff x = Checks.after("star 5 0;roof 99;sight 0a;wish 0a7");
            x.cloud(0, cloud);
            c.due("dawn under " + cloud, x.dawn(), cloud < 5 ? 1 : 0);
            c.due("wishes under " + cloud, x.account(2), cloud < 5 ? 0 : 1);
            c.due("granted under " + cloud, x.roofOf(0, 4), cloud < 5 ? 1 : 0);
            c.due("age under " + cloud, x.wishOf(0, 3), cloud < 5 ? NONE : 1);
        }
        StarBailiff y = Checks.after("star 5 0;roof 99;sight 0a;wish 0a7;cloud 0 9");
        for (int age = 0; age < 5; age++) {
            c.due("age", y.wishOf(0, 3), age);
            c.due("dawn", y.dawn(), 0);
        }
        c.due("dawn under 4", y.dawn(), 1);

        c.sentence("A wish that is impounded is granted to none.");
        StarBailiff z = Checks.poor(9);
        Checks.then(z, "pound 0;wish 0a2");
        c.due("would grant", z.wouldGrant(), 1);
        c.due("dawn", z.dawn(), 1);
        c.due("kind of the one left", z.wishOf(0, 2), 1);
        c.due("granted to its roof", z.roofOf(0, 4), 1);
    }

    private static void forfeited() {
        c.sentence("one that is impounded is so for a night more, and is forfeited and gone if these are 3 nights.");
        StarBailiff x = Checks.poor(9);
        x.pound(0);
        int[] nights = {0, 1, 2, NONE};
        for (int night = 0; night < 4; night++) {
            c.due("nights", x.wishOf(0, 4), nights[night]);
            c.due("wishes", x.account(2), night < 3 ? 1 : 0);
            c.due("forfeited", x.roofOf(0, 5), night < 3 ? 0 : 1);
            c.due("all forfeited", x.account(11), night < 3 ? 0 : 1);
            c.due("dawn", x.dawn(), 0);
        }
        c.due("granted", x.account(10), 0);
        // The nights are those of its being impounded, not those of the wish.
        StarBailiff y = Checks.poor(5);
        Checks.then(y, "cloud 0 9;dawn;dawn;dawn;dawn;pound 0;dawn;dawn");
        c.due("nights of an old one", y.wishOf(0, 4), 2);
        c.due("its age", y.wishOf(0, 3), 4);
        y.dawn();
        c.due("wishes then", y.account(2), 0);
        // Those of one that was redeemed begin anew.
        StarBailiff z = impounded(1, 2, 3);
        Checks.then(z, "redeem 0;pound 0;dawn;dawn");
        c.due("nights of one that was redeemed", z.wishOf(0, 4), 2);
        z.dawn();
        c.due("forfeited then", z.account(11), 1);
    }

    private static void cloudsAndStays() {
        c.sentence("Then each cloud becomes 1 less, down to 0, and each stay becomes a night less, down to 0;");
        StarBailiff x = Checks.after("cloud 1 1;cloud 2 2;cloud 3 9;roof 0;roof 0;roof 0;roof 0;stay 1 1;stay 2 2",
                "stay 3 9");
        int[] first = {0, 1, 2, 9};
        for (int night = 0; night <= 10; night++) {
            for (int i = 0; i < 4; i++) {
                c.due("cloud " + first[i] + " after " + night, x.cloudOf(i), Math.max(first[i] - night, 0));
                c.due("stay " + first[i] + " after " + night, x.roofOf(i, 1), Math.max(first[i] - night, 0));
            }
            x.dawn();
        }
    }

    private static void nightsAndSightings() {
        c.sentence("then the next night begins, in which nothing has been sighted.");
        StarBailiff x = Checks.after("star 9 0;star 9 1;roof 99;roof 99;cloud 1 9;sight 0a;sight 0b;sight 1a");
        c.due("sighted ahead of it", x.roofOf(0, 7), 3);
        c.due("seen ahead of it", x.roofOf(0, 8), 1);
        x.dawn();
        for (int roof = 0; roof < 2; roof++) {
            c.due("sighted", x.roofOf(roof, 7), 0);
            c.due("seen", x.roofOf(roof, 8), 0);
            c.due("sight", x.sight(roof, 0), 9);
        }

        c.sentence("Nights are counted from 0.");
        StarBailiff y = new StarBailiff();
        for (int night = 0; night < 5; night++) {
            c.due("night", y.account(5), night);
            y.dawn();
        }
    }

    private static void details() {
        exemptSighting();
        ownStar();
        stay();
        roofInDebt();
        nothingBack();
        oddPayment();
        ageOfOneRedeemed();
        coinsAbove99();
        laterPayment();
        claimOfItsOwn();
        severalWishes();
        cloudsAtDawn();
        notPaidForLevies();
    }

    private static void exemptSighting() {
        c.sentence("An exempt sighting counts as one of that night, but allows no wish.");
        StarBailiff x = Checks.after("star 5 0;star 5 1;roof 99;cloud 0 5;sight 0a");
        c.due("sighted", x.roofOf(0, 7), 1);
        c.due("sightings", x.account(6), 1);
        c.due("sightings of the star", x.starOf(0, 4), 1);
        c.refused(x, "sight again", x.sight(0, 0), 3, 1);
        c.refused(x, "wish", x.wish(0, 0, 1), 4, 0);
        x.cloud(0, 4);
        c.refused(x, "sight again when it can be seen", x.sight(0, 0), 3, 1);
        c.refused(x, "wish when it can be seen", x.wish(0, 0, 1), 4, 0);
        x.sight(0, 1);
        c.due("wish on one that is not exempt", x.wish(0, 1, 1), 0);
    }

    private static void ownStar() {
        c.sentence("A roof that claims a star sights it without a levy.");
        StarBailiff x = Checks.after("star 5 0;roof 11;roof 11;claim 0a");
        c.due("levy of its own", x.levy(0, 0), 0);
        c.due("sight of its own", x.sight(0, 0), 0);
        c.due("coins", x.roofOf(0, 0), 1);
        c.due("debt", x.debt(0), 0);
        c.due("sight of another's", x.sight(1, 0), 5);
        x.dawn();
        x.drop(0);
        c.due("sight of one that is dropped", x.sight(0, 0), 5);
    }

    private static void stay() {
        c.sentence("A stay does not stop levies.");
        StarBailiff x = Checks.after("star 9 0;star 9 1;roof 10;stay 0 9");
        c.due("levy", x.levy(0, 0), 9);
        c.due("sight", x.sight(0, 0), 9);
        c.due("sight without coins", x.sight(0, 1), 9);
        c.due("debt", x.debt(0), 8);
        c.due("coins", x.roofOf(0, 0), 0);
    }

    private static void roofInDebt() {
        c.sentence("A roof in debt can pay, claim and redeem.");
        StarBailiff x = Checks.poor(2);
        Checks.then(x, "star 1 3;pound 0");
        Checks.earn(x, 7);
        c.due("redeem", x.redeem(0), 2);
        c.due("claim", x.claim(0, 3), 2);
        c.due("pay", x.pay(0, 3), 8);
        c.due("coins", x.roofOf(0, 0), 0);
    }

    private static void nothingBack() {
        c.sentence("A claim that is dropped brings nothing back.");
        StarBailiff x = Checks.after("star 9 0;roof 50;claim 0a");
        c.due("coins", x.roofOf(0, 0), 32);
        c.due("drop", x.drop(0), 0);
        c.due("coins then", x.roofOf(0, 0), 32);
        c.due("claim again", x.claim(0, 0), 18);
        c.due("coins at the end", x.roofOf(0, 0), 14);
    }

    private static void oddPayment() {
        c.sentence("Half of an odd payment is rounded down for the roof that claims the star.");
        for (int brightness = 1; brightness <= 9; brightness++) {
            StarBailiff x = new StarBailiff();
            x.star(brightness, 0);
            Checks.then(x, "roof 18;claim 0a;roof 9");
            int before = x.roofOf(0, 0);
            x.sight(1, 0);
            c.due("half of " + brightness, x.roofOf(0, 0) - before, brightness / 2);
            c.due("payer", x.roofOf(1, 0), 9 - brightness);
            c.due("paid", x.account(9), brightness);
        }
    }

    private static void ageOfOneRedeemed() {
        c.sentence("A wish that is redeemed is as old as it was when it was impounded.");
        for (int age = 0; age <= 3; age++) {
            StarBailiff x = Checks.poor(1);
            x.cloud(0, 9);
            for (int night = 0; night < age; night++) {
                x.dawn();
            }
            Checks.then(x, "pound 0;dawn;dawn");
            c.due("age while impounded", x.wishOf(0, 3), age);
            Checks.earn(x, 3);
            c.due("redeem", x.redeem(0), 3);
            c.due("age when redeemed", x.wishOf(0, 3), age);
            c.due("nights", x.wishOf(0, 4), NOTHING);
            x.cloud(0, 9);
            x.dawn();
            c.due("age a night later", x.wishOf(0, 3), age + 1);
        }
    }

    private static void coinsAbove99() {
        c.sentence("Coins of a roof can become more than 99.");
        StarBailiff x = Checks.after("star 2 0;roof 99;claim 0a;roof 99");
        for (int coins = 95; coins < 110; coins++) {
            c.due("coins", x.roofOf(0, 0), coins);
            Checks.then(x, "sight 1a;dawn");
        }
        x.write(0);
        c.same("line", Checks.line(x), "0$110");
        x.star(9, 0);
        c.due("sight with more than 99", x.sight(0, 1), 9);
        c.due("coins then", x.roofOf(0, 0), 101);
    }

    private static void laterPayment() {
        c.sentence("The roof that claims a star gets nothing of what is paid for a debt later.");
        // Roof 1 has a debt of 9 for the star of roof 0, and earns 4 by its own.
        StarBailiff x = Checks.after("star 9 0;star 9 1;roof 18;claim 0a;roof 18;claim 1b;sight 1a;roof 9;sight 2b");
        c.due("debt", x.debt(1), 9);
        c.due("pay", x.pay(1, 4), 5);
        c.due("coins of the claimant", x.roofOf(0, 0), 0);
        c.due("coins of the payer", x.roofOf(1, 0), 0);
    }

    private static void claimOfItsOwn() {
        c.sentence("A claim by the roof that has it already is refused for 5, too.");
        StarBailiff x = Checks.after("star 9 0;star 9 0;roof 0;roof 60;claim 1a");
        c.refused(x, "claim of its own", x.claim(1, 0), 5, 1);
        c.due("coins", x.roofOf(1, 0), 42);
        c.due("claim of another", x.claim(1, 1), 18);
    }

    private static void severalWishes() {
        c.sentence("A roof can have several wishes on one star.");
        StarBailiff x = Checks.after("star 9 0;roof 60;sight 0a");
        for (int wish = 0; wish < 8; wish++) {
            c.due("wish", x.wish(0, 0, 4), wish);
            c.due("wishes on it", x.starOf(0, 5), wish + 1);
            c.due("wishes of it", x.roofOf(0, 2), wish + 1);
        }
        c.due("dawn", x.dawn(), 8);
        c.due("granted", x.roofOf(0, 4), 8);
    }

    private static void cloudsAtDawn() {
        c.sentence("At dawn wishes are gone through with the clouds as they are ahead of becoming less.");
        StarBailiff x = Checks.after("star 5 0;star 6 0;roof 60;sight 0a;sight 0b;wish 0a1;wish 0b2;cloud 0 5");
        c.due("would grant", x.wouldGrant(), 1);
        c.due("dawn", x.dawn(), 1);
        c.due("the one left", x.wishOf(0, 2), 1);
        c.due("it can be seen by now", x.starOf(0, 2), 1);
        c.due("next dawn", x.dawn(), 1);
    }

    private static void notPaidForLevies() {
        c.sentence("Claims and redeeming are not among what is paid for levies and debts.");
        StarBailiff x = Checks.poor(2);
        c.due("paid after a claim", x.account(9), 0);
        x.pound(0);
        Checks.earn(x, 4);
        c.due("paid by the levy of another", x.account(9), 8);
        x.redeem(0);
        c.due("paid after redeeming", x.account(9), 8);
        c.due("debt after redeeming", x.debt(0), 11);
        c.due("debtAgain after redeeming", x.debtAgain(0), 11);
        x.pay(0, 2);
        c.due("paid after paying", x.account(9), 10);
        c.due("debtAgain after paying", x.debtAgain(0), 9);
    }
}
