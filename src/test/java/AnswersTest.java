/** Promises 19 to 34: what is told of stars, roofs, wishes and sectors. */
public final class AnswersTest {
    private static final int NONE = StarBailiff.NONE;
    private static final int BAD = StarBailiff.BAD;
    private static final int NOTHING = StarBailiff.NOTHING;
    private static final int[] WRONG = {-1, -4, 9, 8, Integer.MIN_VALUE, Integer.MAX_VALUE};
    private static final Checks c = new Checks();

    public static void main(String[] args) {
        promise19StarOf();
        promise20RoofOf();
        promise21WishOf();
        promise22CloudOf();
        promises23And24Debts();
        promises25And26Seen();
        promise27Levy();
        promises28And29Could();
        promise30Brightens();
        promise31Cheapest();
        promise32WouldGrant();
        promise33Richest();
        promise34Brightest();
        wrongNumbers();
        answersChangeNothing();
        c.end();
    }

    private static void promise19StarOf() {
        StarBailiff x = Checks.after("star 5 3;star 9 1;cloud 3 5;cloud 1 8;roof 99;roof 0;claim 0b",
                "sight 0a;sight 1b;sight 0b;wish 0b1;wish 1b1;wish 0b2");
        int[] first = {5, 3, 0, NOTHING, 1, 0};
        int[] second = {9, 1, 1, 0, 2, 3};
        for (int what = 0; what < 6; what++) {
            c.due("star 0, what " + what, x.starOf(0, what), first[what]);
            c.due("star 1, what " + what, x.starOf(1, what), second[what]);
        }
        x.cloud(3, 4);
        c.due("seen above the cloud", x.starOf(0, 2), 1);
        x.cloud(3, 6);
        c.due("not seen below it", x.starOf(0, 2), 0);
        x.drop(1);
        x.claim(0, 0);
        c.due("claimant gone", x.starOf(1, 3), NOTHING);
        c.due("claimant", x.starOf(0, 3), 0);
        Checks.then(x, "dawn;sight 1b");
        c.due("sightings so far", x.starOf(1, 4), 3);
        c.due("wishes granted", x.starOf(1, 5), 0);
        c.due("star 2", x.starOf(2, 0), NONE);
    }

    private static void promise20RoofOf() {
        StarBailiff x = Checks.after("star 9 0;star 5 1;star 4 2;roof 99;roof 3;cloud 1 5;claim 0a;claim 0c;stay 1 4",
                "sight 1a;sight 1b;sight 1c;wish 1a1;wish 1a2;wish 1c3;stay 1 0;pound 1;wish 1c9");
        int[] rich = {99 - 18 - 8 + 1, 0, 0, 0, 0, 0, 2, 0, 0};
        int[] poor = {0, 0, 4, 3, 0, 0, 0, 7, 5};
        for (int what = 0; what < 9; what++) {
            c.due("roof 0, what " + what, x.roofOf(0, what), rich[what]);
            c.due("roof 1, what " + what, x.roofOf(1, what), poor[what]);
        }
        x.stay(1, 4);
        c.due("stay", x.roofOf(1, 1), 4);
        Checks.then(x, "dawn;sight 0b;sight 0a;cloud 1 9;sight 1b");
        c.due("granted", x.roofOf(1, 4), 1);
        c.due("wishes", x.roofOf(1, 2), 3);
        c.due("sighted", x.roofOf(0, 7), 3);
        c.due("sighted seen", x.roofOf(0, 8), 3);
        c.due("sighted under a cloud", x.roofOf(1, 7), 2);
        c.due("sighted seen under a cloud", x.roofOf(1, 8), 0);
        Checks.then(x, "dawn;dawn");
        c.due("forfeited", x.roofOf(1, 5), 3);
        c.due("impounded", x.roofOf(1, 3), 0);
        c.due("forfeited of the other", x.roofOf(0, 5), 0);
        c.due("granted of the other", x.roofOf(0, 4), 0);
        x.drop(2);
        c.due("claims", x.roofOf(0, 6), 1);
        c.due("roof 2", x.roofOf(2, 0), NONE);
        StarBailiff y = Checks.after("star 1 0;star 1 0;star 1 0;star 1 0;star 1 0;star 1 0;star 1 0;star 1 0",
                "roof 9;sight 0h");
        c.due("bit 7", y.roofOf(0, 7), 128);
        c.due("bit 7 seen", y.roofOf(0, 8), 128);
    }

    private static void promise21WishOf() {
        StarBailiff x = Checks.after("star 9 0;star 5 1;roof 99;roof 0;sight 1a;sight 0b;sight 1b;wish 1b7;wish 0b3",
                "cloud 1 9");
        int[] first = {1, 1, 7, 0, NOTHING, NOTHING};
        for (int what = 0; what < 6; what++) {
            c.due("wish 0, what " + what, x.wishOf(0, what), first[what]);
        }
        x.dawn();
        c.due("age", x.wishOf(0, 3), 1);
        x.pound(1);
        int[] impounded = {1, 1, 7, 1, 0, 5};
        int[] free = {0, 1, 3, 1, NOTHING, NOTHING};
        for (int what = 0; what < 6; what++) {
            c.due("wish 0 impounded, what " + what, x.wishOf(0, what), impounded[what]);
            c.due("wish 1, what " + what, x.wishOf(1, what), free[what]);
        }
        x.dawn();
        c.due("age stays", x.wishOf(0, 3), 1);
        c.due("age grows", x.wishOf(1, 3), 2);
        c.due("nights", x.wishOf(0, 4), 1);
        c.due("cost", x.wishOf(0, 5), 6);
        x.dawn();
        c.due("cost then", x.wishOf(0, 5), 7);
        c.due("wish 2", x.wishOf(2, 0), NONE);
    }

    private static void promise22CloudOf() {
        StarBailiff x = Checks.after("cloud 0 1;cloud 1 9;cloud 3 4");
        int[] clouds = {1, 9, 0, 4};
        for (int sector = 0; sector < 4; sector++) {
            c.due("cloud " + sector, x.cloudOf(sector), clouds[sector]);
        }
        c.due("cloud 4", x.cloudOf(4), NONE);
    }

    private static void promises23And24Debts() {
        StarBailiff x = Checks.after("star 9 0;star 8 1;star 6 2;roof 10;roof 0;roof 99;claim 2b");
        int[][] due = {{0, 0}, {0, 0}, {7, 0}, {7, 8}, {7, 14}, {7, 14}};
        int[][] sights = {{0, 0}, {0, 1}, {1, 1}, {1, 2}, {2, 1}};
        for (int step = 0; step < due.length; step++) {
            for (int roof = 0; roof < 2; roof++) {
                c.due("debt " + roof + " at " + step, x.debt(roof), due[step][roof]);
                c.due("debtAgain " + roof + " at " + step, x.debtAgain(roof), due[step][roof]);
            }
            if (step < sights.length) {
                x.sight(sights[step][0], sights[step][1]);
            }
        }
        c.due("debt of the claimant", x.debt(2), 0);
        c.due("debtAgain of the claimant", x.debtAgain(2), 0);
        c.due("debt 3", x.debt(3), NONE);
        c.due("debtAgain 3", x.debtAgain(3), NONE);
    }

    private static void promises25And26Seen() {
        StarBailiff x = Checks.after("star 9 1;star 4 1;star 4 1;star 1 1;star 5 2;star 9 1");
        int[] seen = {5, 4, 4, 4, 2, 2, 2, 2, 2, 0};
        for (int cloud = 0; cloud < 10; cloud++) {
            x.cloud(1, cloud);
            c.due("seen under " + cloud, x.seen(1), seen[cloud]);
            c.due("seenAgain under " + cloud, x.seenAgain(1), seen[cloud]);
        }
        c.due("seen in 2", x.seen(2), 1);
        c.due("seenAgain in 2", x.seenAgain(2), 1);
        c.due("seen in 0", x.seen(0), 0);
        c.due("seenAgain in 0", x.seenAgain(0), 0);
        c.due("seen in 4", x.seen(4), NONE);
        c.due("seenAgain in 4", x.seenAgain(4), NONE);
    }

    private static void promise27Levy() {
        StarBailiff x = Checks.after("star 9 0;star 3 1;star 6 2;roof 99;roof 0;claim 0b;cloud 2 6");
        int[] first = {9, 0, 0};
        int[] second = {9, 3, 0};
        for (int star = 0; star < 3; star++) {
            c.due("levy 0 " + star, x.levy(0, star), first[star]);
            c.due("levy 1 " + star, x.levy(1, star), second[star]);
        }
        x.sight(0, 0);
        c.due("levy of one sighted", x.levy(0, 0), 9);
        c.due("levy of no roof", x.levy(2, 0), NONE);
        c.due("levy of no star", x.levy(0, 3), NONE);
        c.due("sightings", x.account(6), 1);
    }

    /** Roof 0 has wishes of costs 8, 1 and 1, impounded, and one of 8 that is not; it earns coins by its star d. */
    private static StarBailiff withWishes() {
        return Checks.after("star 8 0;star 1 1;star 9 2;star 2 3;roof 4;claim 0d;roof 99;roof 99",
                "sight 0a;sight 0b;sight 0c;wish 0a1;wish 0b2;wish 0b3;pound 0;wish 0a4");
    }

    private static void couldIs(StarBailiff x, int roof, int due) {
        c.due("could", x.could(roof), due);
        c.due("couldAgain", x.couldAgain(roof), due);
    }

    private static void promises28And29Could() {
        StarBailiff x = withWishes();
        couldIs(x, 0, 0);
        x.sight(1, 3);
        c.due("coins", x.roofOf(0, 0), 1);
        couldIs(x, 0, 1);
        x.sight(2, 3);
        c.due("coins", x.roofOf(0, 0), 2);
        couldIs(x, 0, 2);
        couldIs(x, 1, 0);
        x.dawn();
        // Each cost is 1 more after a night.
        couldIs(x, 0, 1);
        x.sight(1, 3);
        couldIs(x, 0, 1);
        x.sight(2, 3);
        couldIs(x, 0, 2);
        c.due("redeem", x.redeem(1), 2);
        couldIs(x, 0, 1);
        c.due("redeem", x.redeem(2), 2);
        couldIs(x, 0, 0);
        c.due("could of no roof", x.could(3), NONE);
        c.due("couldAgain of no roof", x.couldAgain(3), NONE);
        // Roof 0 has seven wishes of cost 1 and one of cost 9, and earns 4 coins by each sighting of its star.
        StarBailiff y = Checks.after("star 9 0;star 1 1;star 9 2;roof 18;claim 0a;sight 0c;sight 0b;wish 0b1",
                "wish 0b2;wish 0b3;wish 0b4;wish 0c5",
                "wish 0b6;wish 0b7;wish 0b8;pound 0;roof 99;roof 99;roof 99;roof 99");
        int[] due = {0, 4, 7, 7, 8};
        for (int payer = 0; payer < 5; payer++) {
            c.due("coins", y.roofOf(0, 0), 4 * payer);
            couldIs(y, 0, due[payer]);
            y.sight(payer + 1, 0);
        }
    }

    private static void promise30Brightens() {
        StarBailiff x = Checks.after("star 5 2;star 7 2;star 1 3;star 9 0");
        c.due("brightens without a cloud", x.brightens(2), 0);
        int[] due = {0, 0, 0, 0, 0, 1, 2, 3, 4, 5};
        for (int cloud = 1; cloud < 10; cloud++) {
            x.cloud(2, cloud);
            c.due("brightens under " + cloud, x.brightens(2), due[cloud]);
        }
        Checks.then(x, "cloud 3 9;cloud 0 9;cloud 1 9");
        c.due("brightens for a star of 1", x.brightens(3), 9);
        c.due("brightens for a star of 9", x.brightens(0), 1);
        c.due("brightens without stars", x.brightens(1), 0);
        x.dawn();
        c.due("brightens after a dawn", x.brightens(2), 4);
        c.due("brightens 4", x.brightens(4), NONE);
    }

    private static void promise31Cheapest() {
        StarBailiff x = Checks.after("star 5 0;star 3 1;star 9 2;star 3 3;star 7 2;roof 99;roof 99");
        c.due("least levy, lowest of two", x.cheapest(0), 1);
        x.cloud(1, 3);
        c.due("one that can be seen", x.cheapest(0), 3);
        x.sight(0, 3);
        c.due("one that is not sighted", x.cheapest(0), 0);
        c.due("for another roof", x.cheapest(1), 3);
        Checks.then(x, "claim 0e;claim 0c");
        c.due("the brightest without a levy", x.cheapest(0), 2);
        c.due("still for another roof", x.cheapest(1), 3);
        x.sight(0, 2);
        c.due("the next without a levy", x.cheapest(0), 4);
        Checks.then(x, "sight 0e;sight 0a");
        c.due("none", x.cheapest(0), NOTHING);
        x.cloud(1, 0);
        c.due("one again", x.cheapest(0), 1);
        Checks.then(x, "cloud 1 5;sight 0b;cloud 1 0");
        c.due("sighted under a cloud", x.cheapest(0), NOTHING);
        x.dawn();
        c.due("next night", x.cheapest(0), 2);
        Checks.then(x, "star 9 3;claim 0f");
        c.due("the lowest of the brightest", x.cheapest(0), 2);
        Checks.then(x, "drop c;drop e");
        c.due("the only one without a levy", x.cheapest(0), 5);
        x.undo();
        x.undo();
        x.undo();
        x.undo();
        c.due("one that is gone again", x.cheapest(0), 2);
        Checks.then(x, "sight 0a;sight 0b;sight 0c;sight 0d;sight 0e");
        c.due("none but one that is gone again", x.cheapest(0), NOTHING);
        c.due("roof 2", x.cheapest(2), NONE);
        c.due("without stars", Checks.after("roof 5").cheapest(0), NOTHING);
        // Two of its own that are alike: the lowest.
        StarBailiff y = Checks.after("star 1 0;star 4 0;star 4 1;roof 99;claim 0b;claim 0c");
        c.due("lowest of its own", y.cheapest(0), 1);
    }

    private static void promise32WouldGrant() {
        StarBailiff x = Checks.after("star 9 0;star 5 1;roof 0;roof 99;sight 0a;sight 0b;sight 1b;wish 0a1;wish 0b2",
                "wish 1b3");
        c.due("all", x.wouldGrant(), 3);
        x.cloud(1, 5);
        c.due("those that are seen", x.wouldGrant(), 1);
        x.pound(0);
        c.due("none that is impounded", x.wouldGrant(), 0);
        x.cloud(1, 4);
        c.due("that of the other", x.wouldGrant(), 1);
        c.due("as dawn", x.dawn(), 1);
        c.due("a new one", new StarBailiff().wouldGrant(), 0);
    }

    private static void places(StarBailiff x, boolean isRich, int... due) {
        for (int place = 0; place < due.length; place++) {
            c.due("place " + place, isRich ? x.richest(place) : x.brightest(place), due[place]);
        }
        for (int wrong : new int[] {-1, due.length, 8, Integer.MIN_VALUE, Integer.MAX_VALUE}) {
            c.due("place " + wrong, isRich ? x.richest(wrong) : x.brightest(wrong), NONE);
        }
    }

    private static void promise33Richest() {
        places(new StarBailiff(), true);
        StarBailiff x = Checks.after("roof 4;roof 9;roof 4;roof 50;roof 0");
        places(x, true, 3, 1, 0, 2, 4);
        Checks.then(x, "star 4 0;sight 4a;sight 3a;sight 1a");
        // 4, 5, 4, 46, -4
        places(x, true, 3, 1, 0, 2, 4);
        Checks.then(x, "dawn;sight 1a;sight 0a;sight 2a;wish 0a1");
        // 0, 1, 0, 46, -4: of two alike the one with fewer wishes
        places(x, true, 3, 1, 2, 0, 4);
        Checks.then(x, "wish 2a1;wish 2a2");
        places(x, true, 3, 1, 0, 2, 4);
        Checks.then(x, "dawn;sight 1a;dawn;sight 1a;dawn;sight 0a");
        // -4, -7, 0, 46, -4: of two alike without wishes the lowest one
        places(x, true, 3, 2, 0, 4, 1);
    }

    private static void promise34Brightest() {
        places(new StarBailiff(), false);
        StarBailiff x = Checks.after("star 4 0;star 9 0;star 4 1;star 5 2;star 4 3;cloud 0 9;roof 99;roof 99");
        places(x, false, 1, 3, 0, 2, 4);
        x.sight(0, 4);
        places(x, false, 1, 3, 4, 0, 2);
        Checks.then(x, "sight 0c;sight 1c");
        places(x, false, 1, 3, 2, 4, 0);
        Checks.then(x, "dawn;sight 0a");
        places(x, false, 1, 3, 2, 0, 4);
    }

    private static void wrongNumbers() {
        StarBailiff x = withWishes();
        for (int wrong : WRONG) {
            c.due("starOf", x.starOf(wrong, 0), NONE);
            c.due("starOf no what", x.starOf(wrong, wrong), NONE);
            c.due("roofOf", x.roofOf(wrong, 0), NONE);
            c.due("roofOf no what", x.roofOf(wrong, wrong), NONE);
            c.due("wishOf", x.wishOf(wrong, 0), NONE);
            c.due("wishOf no what", x.wishOf(wrong, wrong), NONE);
            c.due("cloudOf", x.cloudOf(wrong), NONE);
            c.due("debt", x.debt(wrong), NONE);
            c.due("debtAgain", x.debtAgain(wrong), NONE);
            c.due("seen", x.seen(wrong), NONE);
            c.due("seenAgain", x.seenAgain(wrong), NONE);
            c.due("levy of no roof", x.levy(wrong, 0), NONE);
            c.due("levy of no star", x.levy(0, wrong), NONE);
            c.due("could", x.could(wrong), NONE);
            c.due("couldAgain", x.couldAgain(wrong), NONE);
            c.due("brightens", x.brightens(wrong), NONE);
            c.due("cheapest", x.cheapest(wrong), NONE);
        }
        for (int wrong : new int[] {-1, -4, 14, Integer.MIN_VALUE, Integer.MAX_VALUE}) {
            c.due("starOf what", x.starOf(0, wrong), BAD);
            c.due("roofOf what", x.roofOf(0, wrong), BAD);
            c.due("wishOf what", x.wishOf(0, wrong), BAD);
        }
        c.due("starOf what 6", x.starOf(0, 6), BAD);
        c.due("roofOf what 9", x.roofOf(0, 9), BAD);
        c.due("wishOf what 6", x.wishOf(0, 6), BAD);
    }

    private static void answersChangeNothing() {
        StarBailiff x = withWishes();
        String before = Checks.picture(x);
        int changes = x.account(13);
        for (int number = 0; number < 5; number++) {
            x.seen(number);
            x.seenAgain(number);
            x.could(number);
            x.couldAgain(number);
            x.brightens(number);
            x.cheapest(number);
            x.richest(number);
            x.brightest(number);
            x.levy(0, number);
            x.write(number);
            x.writeSky(number);
        }
        x.wouldGrant();
        x.isWell();
        x.meanCloud();
        x.poundShare();
        c.same("after answers", Checks.picture(x), before);
        c.due("changes", x.account(13), changes);
    }
}
