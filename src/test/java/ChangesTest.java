/** Promises 1 to 15: a new object, the input, and the changes that are calls. */
public final class ChangesTest {
    private static final int NONE = StarBailiff.NONE;
    private static final int BAD = StarBailiff.BAD;
    private static final int NOTHING = StarBailiff.NOTHING;
    private static final int[] WRONG = {-1, Integer.MIN_VALUE, Integer.MAX_VALUE};
    private static final Checks c = new Checks();

    public static void main(String[] args) {
        promise1NewObject();
        promise2Clear();
        promise2ClearOfAFullSky();
        promise2ClearKeepsTheRest();
        promise3Append();
        promise4Star();
        promise5Roof();
        promise6Cloud();
        promise7Sight();
        promise7SightOfClaimedStars();
        promise7ExemptSight();
        promise8Claim();
        promise9Drop();
        promise10Wish();
        promise11Pay();
        promise12Pound();
        promise13Redeem();
        promise14Stay();
        promise15Dawn();
        promise15WishesAtDawn();
        promise15WishesAfterThat();
        promise15NumbersAtDawn();
        errorsLeaveAllAsItWas();
        c.end();
    }

    private static void promise1NewObject() {
        StarBailiff x = new StarBailiff();
        for (int what = 0; what < 14; what++) {
            c.due("new account " + what, x.account(what), 0);
        }
        for (int sector = 0; sector < 4; sector++) {
            c.due("new cloud", x.cloudOf(sector), 0);
        }
        c.due("new fault", x.fault(), NOTHING);
        c.due("new reason", x.reason(0, false), NOTHING);
        c.due("new written", x.written(0), NONE);
        c.due("new undo", x.undo(), NOTHING);
        c.due("new restore", x.restore(), NOTHING);
        c.due("new starOf", x.starOf(0, 0), NONE);
        c.due("new roofOf", x.roofOf(0, 0), NONE);
        c.due("new wishOf", x.wishOf(0, 0), NONE);
    }

    private static void promise2Clear() {
        StarBailiff x = Checks.after("star 9 0;star 3 1;roof 1;roof 9;sight 0a;sight 0b;wish 0a5",
                "claim 1b;cloud 2 7;dawn;stay 1 3", "cloud 0 9;star 8 3;sight 1a");
        c.due("clear", x.clear(), 3);
        c.same("cleared", Checks.picture(x), Checks.picture(new StarBailiff()));
        c.due("undos of a cleared one", x.account(13), 0);
        c.due("undo of a cleared one", x.undo(), NOTHING);
        c.due("clear of a cleared one", x.clear(), 0);
        // What comes after a clear begins as in a new object.
        Checks.then(x, "star 5 2;roof 7;sight 0a;wish 0a1");
        c.same("after a clear", Checks.picture(x), Checks.picture(Checks.after("star 5 2;roof 7;sight 0a;wish 0a1")));
    }

    /** A sky that was full of numbers is as a new one, also where the same stars, roofs and wishes come again. */
    private static void promise2ClearOfAFullSky() {
        StarBailiff x = Checks.after("star 9 1;star 9 0;star 8 2;roof 0;roof 16;claim 1c;sight 0a;sight 0b;wish 0a1",
                "wish 0b2;pound 0;wish 0a3;dawn;dawn;dawn;sight 0c;sight 1a;wish 0c4;cloud 2 9;dawn;cloud 1 9;sight 0a",
                "cloud 3 7;stay 0 7;stay 1 9;sight 0b;sight 1b;sight 1c;wish 0b5;wish 1b6");
        c.due("granted", x.account(10), 1);
        c.due("forfeited", x.account(11), 2);
        c.due("age", x.wishOf(0, 3), 1);
        c.due("clear", x.clear(), 3);
        c.same("cleared", Checks.picture(x), Checks.picture(new StarBailiff()));
        for (int number = 0; number < 4; number++) {
            c.due("seen", x.seen(number), 0);
            c.due("seenAgain", x.seenAgain(number), 0);
            c.due("brightens", x.brightens(number), 0);
            c.due("brightest", x.brightest(number), NONE);
            c.due("richest", x.richest(number), NONE);
            c.due("writeSky", x.writeSky(number), 0);
        }
        c.due("wouldGrant", x.wouldGrant(), 0);
        StarBailiff y = new StarBailiff();
        for (StarBailiff each : new StarBailiff[] {x, y}) {
            Checks.then(each, "roof 4;roof 5;star 3 3;star 4 3;sight 0a;sight 0b;wish 0a7;wish 0a8;cloud 3 3");
        }
        c.same("after a clear", Checks.picture(x), Checks.picture(y));
    }

    private static void promise2ClearKeepsTheRest() {
        StarBailiff x = Checks.after("star 9 0;roof 5");
        x.save();
        Checks.read(x, "dow");
        x.drop(0);
        x.write(0);
        Checks.feed(x, "dawn");
        x.clear();
        c.due("input kept", x.account(12), 4);
        c.due("fault kept", x.fault(), 1);
        c.due("reason kept", x.reason(0, false), 7);
        c.same("line kept", Checks.line(x), "0$5");
        c.due("saved kept", x.restore(), 1);
        c.due("read after", x.read(), 1);
    }

    private static void promise3Append() {
        StarBailiff x = new StarBailiff();
        c.due("append code 31", x.append((char) 31), BAD);
        c.due("append code 127", x.append((char) 127), BAD);
        c.due("append code 0", x.append((char) 0), BAD);
        c.due("append code 65535", x.append((char) 65535), BAD);
        c.due("append code 233", x.append((char) 233), BAD);
        c.due("input then", x.account(12), 0);
        c.due("append code 32", x.append((char) 32), 1);
        c.due("append code 126", x.append((char) 126), 2);
        for (int length = 3; length <= 60; length++) {
            c.due("append", x.append('a'), length);
        }
        c.due("append beyond", x.append('a'), BAD);
        c.due("append beyond again", x.append((char) 31), BAD);
        c.due("input full", x.account(12), 60);
        c.due("read", x.read(), BAD);
        c.due("append after read", x.append('d'), 1);
    }

    private static void promise4Star() {
        StarBailiff x = new StarBailiff();
        for (int wrong : new int[] {-1, 4, Integer.MIN_VALUE, Integer.MAX_VALUE}) {
            c.due("star in no sector", x.star(5, wrong), NONE);
            c.due("star of no brightness in no sector", x.star(0, wrong), NONE);
        }
        for (int wrong : new int[] {0, 10, -1, Integer.MIN_VALUE, Integer.MAX_VALUE}) {
            c.due("star of brightness " + wrong, x.star(wrong, 0), BAD);
        }
        for (int star = 0; star < 8; star++) {
            c.due("star", x.star(star + 1, star % 4), star);
            c.due("brightness", x.starOf(star, 0), star + 1);
            c.due("sector", x.starOf(star, 1), star % 4);
            c.due("claimant", x.starOf(star, 3), NOTHING);
            c.due("sightings", x.starOf(star, 4), 0);
        }
        c.refused(x, "ninth star", x.star(9, 3), 1, 8);
        c.due("ninth star in no sector", x.star(9, 4), NONE);
        c.due("ninth star of no brightness", x.star(10, 3), BAD);
        c.due("stars", x.account(0), 8);
        c.due("changes", x.account(13), 8);
        c.due("brightness 9", new StarBailiff().star(9, 3), 0);
    }

    private static void promise5Roof() {
        StarBailiff x = new StarBailiff();
        for (int wrong : new int[] {-1, 100, Integer.MIN_VALUE, Integer.MAX_VALUE}) {
            c.due("roof of coins " + wrong, x.roof(wrong), BAD);
        }
        int[] coins = {0, 99, 5, 50, 1};
        for (int roof = 0; roof < 5; roof++) {
            c.due("roof", x.roof(coins[roof]), roof);
            c.due("coins", x.roofOf(roof, 0), coins[roof]);
            c.due("debt", x.debt(roof), 0);
            c.due("stay", x.roofOf(roof, 1), 0);
        }
        c.refused(x, "sixth roof", x.roof(9), 1, 5);
        c.due("sixth roof of coins 100", x.roof(100), BAD);
        c.due("roofs", x.account(1), 5);
    }

    private static void promise6Cloud() {
        StarBailiff x = new StarBailiff();
        for (int wrong : new int[] {-1, 4, Integer.MIN_VALUE, Integer.MAX_VALUE}) {
            c.due("cloud of no sector", x.cloud(wrong, 3), NONE);
            c.due("no cloud of no sector", x.cloud(wrong, 10), NONE);
        }
        for (int wrong : new int[] {-1, 10, Integer.MIN_VALUE, Integer.MAX_VALUE}) {
            c.due("cloud " + wrong, x.cloud(0, wrong), BAD);
        }
        c.refused(x, "cloud 0 as it is", x.cloud(3, 0), 2, 0);
        c.due("cloud", x.cloud(3, 9), 0);
        c.due("cloud again", x.cloud(3, 4), 9);
        c.refused(x, "cloud 4 as it is", x.cloud(3, 4), 2, 4);
        c.due("cloud back", x.cloud(3, 0), 4);
        c.due("cloud of another", x.cloudOf(0), 0);
        c.due("changes", x.account(13), 3);
    }

    private static void promise7Sight() {
        StarBailiff x = Checks.after("star 9 0;star 4 1;roof 11;roof 0");
        for (int wrong : WRONG) {
            c.due("sight of no roof", x.sight(wrong, 0), NONE);
            c.due("sight of no star", x.sight(0, wrong), NONE);
        }
        c.due("sight of roof 2", x.sight(2, 0), NONE);
        c.due("sight of star 2", x.sight(0, 2), NONE);
        c.due("sight with coins", x.sight(0, 0), 9);
        c.due("coins", x.roofOf(0, 0), 2);
        c.due("debt", x.debt(0), 0);
        c.due("paid", x.account(9), 9);
        c.refused(x, "sight again", x.sight(0, 0), 3, 1);
        c.due("sight with too few coins", x.sight(0, 1), 4);
        c.due("coins then", x.roofOf(0, 0), 0);
        c.due("debt then", x.debt(0), 2);
        c.due("paid then", x.account(9), 11);
        c.due("levied", x.account(8), 13);
        c.refused(x, "sight of the second again", x.sight(0, 1), 3, 2);
        c.due("sight of another roof", x.sight(1, 0), 9);
        c.due("its debt", x.debt(1), 9);
        c.due("sightings", x.starOf(0, 4), 2);
        c.due("sighted set", x.roofOf(0, 7), 3);
        x.dawn();
        x.stay(0, 9);
        c.due("a stay stops no levy", x.sight(0, 0), 9);
        c.due("debt of next night", x.debt(0), 11);
    }

    private static void promise7SightOfClaimedStars() {
        StarBailiff x = Checks.after("star 5 0;star 8 0;roof 99;roof 8;roof 3", "claim 0a;claim 0b");
        c.due("coins after claims", x.roofOf(0, 0), 73);
        c.due("sight of its own", x.sight(0, 0), 0);
        c.due("no exempt one", x.account(7), 0);
        c.due("sighted seen", x.roofOf(0, 8), 1);
        c.due("wish on its own", x.wish(0, 0, 1), 0);
        c.due("coins as before", x.roofOf(0, 0), 73);
        c.due("sight of another's", x.sight(1, 0), 5);
        c.due("half of 5", x.roofOf(0, 0), 75);
        c.due("payer", x.roofOf(1, 0), 3);
        c.due("sight with 3 coins of 8", x.sight(2, 1), 8);
        c.due("half of 3", x.roofOf(0, 0), 76);
        c.due("debt", x.debt(2), 5);
        c.due("sight with 3 coins again", x.sight(1, 1), 8);
        c.due("half of 3 again", x.roofOf(0, 0), 77);
        c.due("paid in all", x.account(9), 11);
        StarBailiff y = Checks.after("star 9 0;roof 99;roof 99;claim 0a;drop a;star 4 0;claim 0b;roof 4", "sight 1b");
        c.due("coins of the claimant", y.roofOf(0, 0), 75);
        for (int night = 0; night < 20; night++) {
            y.dawn();
            y.sight(1, 1);
        }
        c.due("coins above 99", y.roofOf(0, 0), 115);
    }

    private static void promise7ExemptSight() {
        StarBailiff x = Checks.after("star 5 2;roof 20;roof 20;claim 1a;cloud 2 5");
        c.due("exempt sight", x.sight(0, 0), 0);
        c.due("coins", x.roofOf(0, 0), 20);
        c.due("claimant's coins", x.roofOf(1, 0), 10);
        c.due("sighted", x.roofOf(0, 7), 1);
        c.due("sighted seen", x.roofOf(0, 8), 0);
        c.due("sightings", x.account(6), 1);
        c.due("exempt", x.account(7), 1);
        c.refused(x, "exempt sight again", x.sight(0, 0), 3, 1);
        c.due("exempt sight of its own", x.sight(1, 0), 0);
        c.due("exempt then", x.account(7), 2);
        x.cloud(2, 4);
        c.refused(x, "sight once it can be seen", x.sight(0, 0), 3, 1);
        x.dawn();
        c.due("sight next night", x.sight(0, 0), 5);
    }

    private static void promise8Claim() {
        StarBailiff x = Checks.after("star 9 0;star 3 1;roof 23;roof 99;roof 0", "sight 2b;sight 2a");
        for (int wrong : WRONG) {
            c.due("claim of no roof", x.claim(wrong, 0), NONE);
            c.due("claim of no star", x.claim(0, wrong), NONE);
        }
        c.due("claim of roof 3", x.claim(3, 0), NONE);
        c.due("claim of star 2", x.claim(0, 2), NONE);
        c.due("claim", x.claim(0, 0), 18);
        c.due("coins", x.roofOf(0, 0), 5);
        c.due("claimant", x.starOf(0, 3), 0);
        c.due("claimed by it", x.roofOf(0, 6), 1);
        c.refused(x, "claim of its own", x.claim(0, 0), 5, 0);
        c.refused(x, "claim of another's", x.claim(1, 0), 5, 0);
        c.refused(x, "claim without coins", x.claim(0, 1), 6, 1);
        c.refused(x, "claim of another's without coins", x.claim(2, 0), 5, 0);
        c.refused(x, "claim of a roof in debt", x.claim(2, 1), 6, 6);
        c.due("paid for levies and debts", x.account(9), 0);
        c.due("claim with all coins", Checks.after("star 9 3;roof 18").claim(0, 0), 18);
        StarBailiff y = inDebt();
        c.due("claim of a roof in debt with coins", y.claim(0, 1), 2);
        c.due("its debt", y.debt(0), 9);
        c.due("its coins", y.roofOf(0, 0), 6);
    }

    /** Returns an object where roof 0 has a debt of 9 and then got 8 coins for the star 0 that it claims. */
    private static StarBailiff inDebt() {
        return Checks.after("star 8 0;star 1 0;star 9 1;roof 16;claim 0a;sight 0c",
                "roof 99;roof 99;sight 1a;sight 2a");
    }

    private static void promise9Drop() {
        StarBailiff x = Checks.after("star 9 0;star 3 1;roof 23;roof 99");
        for (int wrong : WRONG) {
            c.due("drop of no star", x.drop(wrong), NONE);
        }
        c.due("drop of star 2", x.drop(2), NONE);
        c.refused(x, "drop of star 0", x.drop(0), 7, 0);
        c.refused(x, "drop of star 1", x.drop(1), 7, 1);
        x.claim(1, 1);
        c.due("drop", x.drop(1), 1);
        c.due("nothing back", x.roofOf(1, 0), 93);
        c.due("claimant", x.starOf(1, 3), NOTHING);
        c.refused(x, "drop again", x.drop(1), 7, 1);
        c.due("claim by another", x.claim(0, 1), 6);
        c.due("drop of roof 0", x.drop(1), 0);
    }

    private static void promise10Wish() {
        StarBailiff x = Checks.after("star 9 0;star 3 1;star 7 1;roof 99;roof 0;cloud 1 3", "sight 0b;sight 0a");
        for (int wrong : WRONG) {
            c.due("wish of no roof", x.wish(wrong, 0, 0), NONE);
            c.due("wish on no star", x.wish(0, wrong, 0), NONE);
            c.due("wish on no star of no kind", x.wish(0, wrong, wrong), NONE);
            c.due("wish of no kind", x.wish(0, 0, wrong), BAD);
            c.due("wish of no kind on star not sighted", x.wish(0, 2, wrong), BAD);
        }
        c.due("wish of kind 10", x.wish(0, 0, 10), BAD);
        c.due("wish of roof 2", x.wish(2, 0, 0), NONE);
        c.due("wish on star 3", x.wish(0, 3, 0), NONE);
        c.refused(x, "wish on a star not sighted", x.wish(0, 2, 0), 4, 1);
        c.refused(x, "wish on a star sighted exempt", x.wish(0, 1, 0), 4, 1);
        c.refused(x, "wish of a roof without sightings", x.wish(1, 0, 0), 4, 0);
        c.due("wish of kind 0", x.wish(0, 0, 0), 0);
        c.due("wish of kind 9", x.wish(0, 0, 9), 1);
        c.due("its roof", x.wishOf(1, 0), 0);
        c.due("its star", x.wishOf(1, 1), 0);
        c.due("its kind", x.wishOf(1, 2), 9);
        c.due("its age", x.wishOf(1, 3), 0);
        c.due("impounded", x.wishOf(1, 4), NOTHING);
        x.cloud(0, 9);
        for (int wish = 2; wish < 8; wish++) {
            c.due("wish under a cloud that came later", x.wish(0, 0, 5), wish);
        }
        c.refused(x, "ninth wish", x.wish(0, 0, 5), 1, 8);
        c.refused(x, "ninth wish on a star not sighted", x.wish(0, 2, 5), 4, 1);
        c.due("ninth wish of no kind", x.wish(0, 0, 10), BAD);
        x.dawn();
        c.refused(x, "wish in the next night", x.wish(0, 0, 5), 4, 0);
    }

    private static void promise11Pay() {
        StarBailiff x = Checks.after("star 9 0;star 7 1;roof 4;roof 99;sight 0a;sight 0b", "claim 1b;star 6 2;roof 9");
        for (int wrong : WRONG) {
            c.due("pay of no roof", x.pay(wrong, 1), NONE);
            c.due("pay of no roof and no coins", x.pay(wrong, wrong), NONE);
            c.due("pay of no coins", x.pay(0, wrong), BAD);
        }
        c.due("pay of roof 3", x.pay(3, 1), NONE);
        c.due("pay of 0", x.pay(0, 0), BAD);
        c.due("pay of 100", x.pay(0, 100), BAD);
        c.due("debt", x.debt(0), 12);
        c.refused(x, "pay without coins", x.pay(0, 1), 6, 1);
        c.refused(x, "pay of 99 without coins", x.pay(0, 99), 6, 99);
        c.refused(x, "pay without debt", x.pay(1, 1), 8, 0);
        c.refused(x, "pay without debt and coins", x.pay(2, 10), 6, 1);
        StarBailiff y = inDebt();
        c.due("coins of y", y.roofOf(0, 0), 8);
        c.due("debt of y", y.debt(0), 9);
        c.due("pay", y.pay(0, 3), 6);
        c.due("coins then", y.roofOf(0, 0), 5);
        c.due("debt then", y.debt(0), 6);
        c.due("debtAgain then", y.debtAgain(0), 6);
        c.due("paid then", y.account(9), 19);
        c.refused(y, "pay with too few coins", y.pay(0, 7), 6, 2);
        c.due("pay all coins", y.pay(0, 5), 1);
        Checks.then(y, "dawn;sight 1a");
        c.refused(y, "pay more than the debt", y.pay(0, 2), 8, 1);
        c.due("pay the rest", y.pay(0, 1), 0);
        c.due("coins at the end", y.roofOf(0, 0), 3);
        c.refused(y, "pay of 99", y.pay(1, 99), 6, 16);
        // Roof 1 has a debt for the star of roof 0, and earns coins by a star of its own.
        StarBailiff z = Checks.after("star 9 0;star 8 0;roof 18;claim 0a;roof 16;claim 1b;sight 1a;roof 99;sight 2b");
        c.due("debt of z", z.debt(1), 9);
        c.due("pay for the star of another", z.pay(1, 4), 5);
        c.due("its claimant gets nothing", z.roofOf(0, 0), 0);
    }

    private static void promise12Pound() {
        StarBailiff x = Checks.after("star 9 0;star 1 1;roof 0;roof 0;roof 0;sight 0a;wish 0a1",
                "sight 1a;wish 1a2;wish 0a3");
        for (int wrong : WRONG) {
            c.due("pound of no roof", x.pound(wrong), NONE);
        }
        c.due("pound of roof 3", x.pound(3), NONE);
        c.refused(x, "pound with debt 9", x.pound(0), 10, 9);
        x.stay(0, 2);
        c.refused(x, "pound under a stay", x.pound(0), 9, 2);
        x.sight(0, 1);
        c.refused(x, "pound under a stay with debt 10", x.pound(0), 9, 2);
        x.stay(0, 1);
        c.refused(x, "pound under a stay of a night", x.pound(0), 9, 1);
        x.stay(0, 0);
        c.due("pound with debt 10", x.pound(0), 2);
        c.due("impounded", x.wishOf(0, 4), 0);
        c.due("another's", x.wishOf(1, 4), NOTHING);
        c.due("impounded too", x.wishOf(2, 4), 0);
        c.refused(x, "pound again", x.pound(0), 11, 2);
        x.wish(0, 0, 7);
        c.due("pound of the new one", x.pound(0), 1);
        c.refused(x, "pound once more", x.pound(0), 11, 3);
        Checks.then(x, "sight 2a;sight 2b");
        c.due("debt without wishes", x.debt(2), 10);
        c.refused(x, "pound without wishes", x.pound(2), 11, 0);
        c.due("impounded in all", x.account(3), 3);
    }

    private static void promise13Redeem() {
        // Roof 0 claims a star, so that it earns coins though it is in debt.
        StarBailiff x = Checks.after("star 8 0;star 9 1;star 1 1;roof 16;claim 0a;sight 0b",
                "sight 0c;cloud 1 9;wish 0b1;wish 0c2",
                "roof 99;roof 99;dawn;stay 0 1", "stay 0 0;sight 1a;pound 0;dawn;sight 1a");
        for (int wrong : WRONG) {
            c.due("redeem of no wish", x.redeem(wrong), NONE);
        }
        c.due("redeem of wish 2", x.redeem(2), NONE);
        c.due("coins", x.roofOf(0, 0), 8);
        c.due("age", x.wishOf(0, 3), 1);
        c.due("nights", x.wishOf(0, 4), 1);
        c.refused(x, "redeem without coins", x.redeem(0), 6, 2);
        c.due("cost told", x.wishOf(1, 5), 2);
        c.due("redeem", x.redeem(1), 2);
        c.due("coins then", x.roofOf(0, 0), 6);
        c.due("impounded no more", x.wishOf(1, 4), NOTHING);
        c.due("as old as it was", x.wishOf(1, 3), 1);
        c.due("paid for levies and debts", x.account(9), 16);
        c.refused(x, "redeem again", x.redeem(1), 12, 1);
        x.dawn();
        c.due("older then", x.wishOf(1, 3), 2);
        c.refused(x, "redeem an older one", x.redeem(1), 12, 2);
        x.sight(1, 0);
        c.refused(x, "redeem for one more night", x.redeem(0), 6, 1);
        x.sight(2, 0);
        c.due("redeem for two nights", x.redeem(0), 11);
        c.due("impound it anew", x.pound(0), 2);
        c.due("nights anew", x.wishOf(0, 4), 0);
        c.refused(x, "redeem of the anew", x.redeem(0), 6, 6);
    }

    private static void promise14Stay() {
        StarBailiff x = Checks.after("roof 4;roof 5");
        for (int wrong : WRONG) {
            c.due("stay of no roof", x.stay(wrong, 1), NONE);
            c.due("stay of no roof and nights", x.stay(wrong, wrong), NONE);
            c.due("stay for no nights", x.stay(0, wrong), BAD);
        }
        c.due("stay of roof 2", x.stay(2, 1), NONE);
        c.due("stay for 10", x.stay(0, 10), BAD);
        c.refused(x, "stay 0 as it is", x.stay(0, 0), 2, 0);
        c.due("stay for 9", x.stay(0, 9), 0);
        c.refused(x, "stay 9 as it is", x.stay(0, 9), 2, 9);
        c.due("stay in its place", x.stay(0, 2), 9);
        c.due("stay of the other", x.roofOf(1, 1), 0);
        x.dawn();
        c.due("stay after a dawn", x.roofOf(0, 1), 1);
        c.due("stay 0", x.stay(0, 0), 1);
        c.due("changes", x.account(13), 6);
    }

    private static void promise15Dawn() {
        StarBailiff x = Checks.after("cloud 0 9;cloud 1 1;roof 5;roof 5;stay 1 2;star 5 0;star 5 1",
                "sight 0a;sight 0b");
        c.due("dawn", x.dawn(), 0);
        c.due("cloud 9", x.cloudOf(0), 8);
        c.due("cloud 1", x.cloudOf(1), 0);
        c.due("cloud 0", x.cloudOf(2), 0);
        c.due("stay 0", x.roofOf(0, 1), 0);
        c.due("stay 2", x.roofOf(1, 1), 1);
        c.due("sighted", x.roofOf(0, 7), 0);
        c.due("sighted seen", x.roofOf(0, 8), 0);
        c.due("nights", x.account(5), 1);
        c.due("sightings so far", x.account(6), 2);
        c.due("sightings of a star so far", x.starOf(0, 4), 1);
        c.due("dawn again", x.dawn(), 0);
        c.due("stay 1", x.roofOf(1, 1), 0);
        c.due("cloud 8", x.cloudOf(0), 7);
        c.due("nights again", x.account(5), 2);
        StarBailiff y = new StarBailiff();
        c.due("dawn of a new one", y.dawn(), 0);
        c.due("a dawn by which nothing is different is a change", y.account(13), 1);
    }

    private static void promise15WishesAtDawn() {
        // Clouds are as they are ahead of becoming less: a star of 5 under a cloud of 5 is not seen at this dawn.
        StarBailiff x = Checks.after("star 5 0;star 6 0;roof 99;roof 0;sight 0a;sight 0b;wish 0a1",
                "wish 0b2;wish 0a3;cloud 0 5");
        c.due("dawn grants the brighter", x.dawn(), 1);
        c.due("wishes left", x.account(2), 2);
        c.due("granted", x.account(10), 1);
        c.due("granted of the roof", x.roofOf(0, 4), 1);
        c.due("age of the first", x.wishOf(0, 3), 1);
        c.due("kind of the first", x.wishOf(0, 2), 1);
        c.due("kind of the second", x.wishOf(1, 2), 3);
        c.due("dawn grants both", x.dawn(), 2);
        c.due("no wishes", x.account(2), 0);
        c.due("granted then", x.roofOf(0, 4), 3);
        // Those impounded are granted to none, though their star is seen, and are forfeited after 3 nights.
        StarBailiff y = Checks.after("star 9 0;star 5 0;roof 0;sight 0a;sight 0b;wish 0a4;pound 0",
                "wish 0b6;cloud 0 9");
        c.due("dawn 1", y.dawn(), 0);
        c.due("nights 1", y.wishOf(0, 4), 1);
        c.due("age stays", y.wishOf(0, 3), 0);
        c.due("age grows", y.wishOf(1, 3), 1);
        y.cloud(0, 5);
        c.due("dawn 2", y.dawn(), 0);
        c.due("nights 2", y.wishOf(0, 4), 2);
        c.due("dawn 3", y.dawn(), 1);
        c.due("forfeited", y.account(11), 1);
        c.due("forfeited of the roof", y.roofOf(0, 5), 1);
        c.due("granted of the roof", y.roofOf(0, 4), 1);
        c.due("wishes", y.account(2), 0);
    }

    /** A wish that comes after one that is gone has nothing of it. */
    private static void promise15WishesAfterThat() {
        StarBailiff x = Checks.after("star 9 0;roof 0;roof 0;sight 0a;wish 0a1;cloud 0 9;dawn;sight 0a;wish 0a2",
                "cloud 0 9;dawn");
        c.due("age of the first", x.wishOf(0, 3), 2);
        c.due("age of the second", x.wishOf(1, 3), 1);
        c.due("granted", x.dawn(), 2);
        Checks.then(x, "cloud 0 3;sight 1a;wish 1a3");
        int[] due = {1, 0, 3, 0, NOTHING};
        for (int what = 0; what < 5; what++) {
            c.due("what " + what, x.wishOf(0, what), due[what]);
        }
    }

    private static void promise15NumbersAtDawn() {
        StarBailiff x = Checks.after("star 9 0;star 5 1;roof 0;roof 99;sight 0a;sight 0b;sight 1a",
                "sight 1b;wish 0b1;wish 1a2;wish 0b3",
                "wish 1b4;wish 1a5;pound 0;cloud 1 9");
        c.due("dawn", x.dawn(), 2);
        int[] kinds = {1, 3, 4};
        int[] nights = {1, 1, NOTHING};
        int[] roofs = {0, 0, 1};
        int[] ages = {0, 0, 1};
        for (int wish = 0; wish < 3; wish++) {
            c.due("kind", x.wishOf(wish, 2), kinds[wish]);
            c.due("nights", x.wishOf(wish, 4), nights[wish]);
            c.due("roof", x.wishOf(wish, 0), roofs[wish]);
            c.due("age", x.wishOf(wish, 3), ages[wish]);
            c.due("star", x.wishOf(wish, 1), 1);
        }
        c.due("no more", x.wishOf(3, 0), NONE);
    }

    private static void errorsLeaveAllAsItWas() {
        StarBailiff x = Checks.after("star 9 0;star 3 1;roof 0;roof 20;claim 1b;sight 0a;wish 0a3",
                "sight 0b;pound 0;cloud 3 4");
        String before = Checks.picture(x);
        int changes = x.account(13);
        int[] codes = {
            x.star(0, 0), x.star(1, 9), x.roof(100), x.cloud(3, 4), x.cloud(9, 9), x.cloud(0, 11), x.sight(0, 0),
            x.sight(0, 7), x.claim(0, 0), x.claim(1, 1), x.claim(5, 0), x.drop(0), x.drop(5), x.wish(1, 1, 1),
            x.wish(0, 0, 10), x.wish(0, 4, 1), x.pay(0, 1), x.pay(1, 1), x.pay(0, 0), x.pay(4, 1), x.pound(0),
            x.pound(1), x.pound(7), x.redeem(0), x.redeem(1), x.stay(0, 0), x.stay(0, 12), x.stay(9, 1)};
        for (int code : codes) {
            c.due("an error", code < 0 ? 1 : 0, 1);
        }
        c.same("after errors", Checks.picture(x), before);
        c.due("changes after errors", x.account(13), changes);
    }
}
