/** The sentences of promises 1 to 18 that name a boundary: for each both sides of it. */
public final class CallSentencesTest {
    private static final int NONE = StarBailiff.NONE;
    private static final int BAD = StarBailiff.BAD;
    private static final int REFUSED = StarBailiff.REFUSED;
    private static final int NOTHING = StarBailiff.NOTHING;
    private static final int[] FAR = {Integer.MIN_VALUE, -4, -2, -1, 100, Integer.MAX_VALUE};
    private static final Checks c = new Checks();

    public static void main(String[] args) {
        newObject();
        clear();
        append();
        star();
        roof();
        cloud();
        sight();
        claim();
        drop();
        wish();
        pay();
        payOfMany();
        pound();
        redeem();
        stay();
        dawn();
        readAllOrNone();
        readCodes();
        fault();
        reason();
        c.end();
    }

    private static void newObject() {
        c.sentence("Creates a sky without stars, roofs and clouds.");
        StarBailiff x = new StarBailiff();
        c.due("star 0", x.starOf(0, 0), NONE);
        c.due("roof 0", x.roofOf(0, 0), NONE);
        c.due("wish 0", x.wishOf(0, 0), NONE);
        for (int sector = 0; sector < 4; sector++) {
            c.due("cloud", x.cloudOf(sector), 0);
            c.due("seen", x.seen(sector), 0);
        }
        for (int what = 0; what < 14; what++) {
            c.due("account " + what, x.account(what), 0);
        }
        c.due("fault", x.fault(), NOTHING);
        c.due("written", x.written(0), NONE);
        c.due("undo", x.undo(), NOTHING);
        c.due("restore", x.restore(), NOTHING);
        c.due("reason", x.reason(0, false), NOTHING);
        c.due("read", x.read(), BAD);
        c.due("first star", x.star(1, 0), 0);
        c.due("first roof", x.roof(1), 0);
    }

    private static void clear() {
        c.sentence("Returns how many stars there were.");
        for (int stars = 0; stars <= 8; stars++) {
            StarBailiff x = new StarBailiff();
            for (int star = 0; star < stars; star++) {
                x.star(1, 0);
            }
            c.due("clear", x.clear(), stars);
            c.due("clear again", x.clear(), 0);
        }

        c.sentence("Makes everything as in a new object, except the input, the fault position, the reasons, the written "
                + "line and what was saved.");
        StarBailiff x = Checks.after("star 9 0;star 9 1;star 9 2;star 9 3;star 9 0;star 9 1;star 9 2;star 9 3;roof 99");
        Checks.then(x, "roof 20;roof 30;roof 40;roof 50;claim 0h;claim 1g;sight 1a;sight 1b;sight 2a;wish 1a1;wish 1b2");
        Checks.then(x, "wish 2a3;pound 1;dawn;cloud 0 9;cloud 1 9;cloud 2 9;cloud 3 9;stay 0 9;stay 4 9;sight 3a");
        x.save();
        x.write(0);
        Checks.read(x, "roof 100");
        Checks.read(x, "dawn;dawn;drop a");
        Checks.feed(x, "dawn;daw");
        c.due("clear of a full one", x.clear(), 8);
        c.same("picture", Checks.picture(x), Checks.picture(new StarBailiff()));
        c.due("input", x.account(12), 8);
        c.due("fault", x.fault(), 7);
        c.due("reason", x.reason(0, false), 13);
        c.due("detail", x.reason(0, true), 2);
        c.due("reason behind", x.reason(1, false), 7);
        c.due("detail behind", x.reason(1, true), 0);
        c.same("line", Checks.line(x), "0$81s9");
        c.due("what was saved", x.restore(), 8);
        clearOfAFullOne();

        c.sentence("Nothing can be undone then.");
        StarBailiff y = Checks.after("dawn;dawn");
        c.due("changes ahead of it", y.account(13), 2);
        y.clear();
        c.due("changes", y.account(13), 0);
        c.due("undo", y.undo(), NOTHING);
        y.dawn();
        c.due("undo of a change after it", y.undo(), 0);
        c.due("undo of no more", y.undo(), NOTHING);
    }

    /** What comes after a clear has nothing of what was there. */
    private static void clearOfAFullOne() {
        StarBailiff x = new StarBailiff();
        Checks.fill(x);
        c.due("clear", x.clear(), 8);
        c.same("cleared", Checks.picture(x), Checks.picture(new StarBailiff()));
        StarBailiff y = new StarBailiff();
        Checks.fillOtherwise(x);
        Checks.fillOtherwise(y);
        c.same("filled again", Checks.picture(x), Checks.picture(y));
        x.write(4);
        c.same("line", Checks.line(x), "4$79w3");
    }

    private static void append() {
        c.sentence("Returns the length of the input then; BAD if its code is out of range, or there are 60.");
        StarBailiff x = new StarBailiff();
        for (int length = 1; length <= 59; length++) {
            c.due("append", x.append(length % 2 == 0 ? (char) 32 : (char) 126), length);
            c.due("code 31", x.append((char) 31), BAD);
            c.due("code 127", x.append((char) 127), BAD);
        }
        c.due("the sixtieth", x.append((char) 126), 60);
        c.due("one more", x.append((char) 126), BAD);
        c.due("one more of another code", x.append((char) 32), BAD);
        c.due("input", x.account(12), 60);
        x.read();
        c.due("append when it is empty", x.append((char) 126), 1);
    }

    private static void star() {
        c.sentence("Returns its number; NONE if there is no such sector; BAD if the brightness is out of range; REFUSED for 1.");
        StarBailiff x = new StarBailiff();
        for (int far : FAR) {
            c.due("sector " + far, x.star(1, far), NONE);
            c.due("brightness " + far, x.star(far, 0), BAD);
        }
        c.due("sector 4", x.star(9, 4), NONE);
        c.due("brightness 0", x.star(0, 0), BAD);
        c.due("brightness 10", x.star(10, 3), BAD);
        for (int star = 0; star < 8; star++) {
            c.due("star", x.star(star % 2 == 0 ? 1 : 9, star % 2 == 0 ? 0 : 3), star);
        }
        c.due("one more", x.star(1, 0), REFUSED);
        c.due("stars", x.account(0), 8);
        x.undo();
        c.due("the eighth again", x.star(5, 2), 7);
        c.due("its brightness", x.starOf(7, 0), 5);
    }

    private static void roof() {
        c.sentence("Returns its number; BAD if the coins are out of range; REFUSED for 1.");
        StarBailiff x = new StarBailiff();
        for (int far : FAR) {
            c.due("coins " + far, x.roof(far), BAD);
        }
        for (int roof = 0; roof < 5; roof++) {
            c.due("roof", x.roof(roof % 2 == 0 ? 0 : 99), roof);
        }
        c.due("one more", x.roof(0), REFUSED);
        c.due("roofs", x.account(1), 5);
        x.undo();
        c.due("the fifth again", x.roof(5), 4);
        c.due("its coins", x.roofOf(4, 0), 5);
    }

    private static void cloud() {
        c.sentence("Returns the one before; NONE if there is no such sector; BAD if the cloud is out of range; REFUSED for 2.");
        StarBailiff x = new StarBailiff();
        for (int far : FAR) {
            c.due("sector " + far, x.cloud(far, 1), NONE);
            c.due("cloud " + far, x.cloud(0, far), BAD);
        }
        c.due("sector 4", x.cloud(4, 1), NONE);
        c.due("cloud 10", x.cloud(3, 10), BAD);
        for (int sector = 0; sector < 4; sector++) {
            c.due("as at first", x.cloud(sector, 0), REFUSED);
            for (int cloud = 1; cloud <= 9; cloud++) {
                c.due("cloud", x.cloud(sector, cloud), cloud - 1);
                c.due("cloud again", x.cloud(sector, cloud), REFUSED);
            }
            c.due("cloud 0", x.cloud(sector, 0), 9);
        }
        Checks.then(x, "cloud 2 5;dawn");
        c.due("as it was ahead of the dawn", x.cloud(2, 5), 4);
    }

    private static void sight() {
        c.sentence("Returns the levy, 0 without one; NONE if there is no such roof or star; REFUSED for 3.");
        StarBailiff x = Checks.after("star 1 0;star 9 1;star 5 2;roof 99;roof 0;claim 0a;cloud 2 4");
        for (int far : FAR) {
            c.due("roof " + far, x.sight(far, 0), NONE);
            c.due("star " + far, x.sight(0, far), NONE);
        }
        c.due("roof 2", x.sight(2, 0), NONE);
        c.due("star 3", x.sight(0, 3), NONE);
        int[][] levies = {{0, 9, 5}, {1, 9, 5}};
        for (int roof = 0; roof < 2; roof++) {
            for (int star = 0; star < 3; star++) {
                c.due("levy", x.sight(roof, star), levies[roof][star]);
                c.due("sight again", x.sight(roof, star), REFUSED);
            }
        }
        Checks.then(x, "dawn;cloud 2 5;cloud 1 9");
        c.due("without a levy", x.sight(0, 2), 0);
        c.due("without a levy under 9", x.sight(1, 1), 0);
    }

    private static void claim() {
        c.sentence("Returns what that costs; NONE if there is no such roof or star; REFUSED for 5 or 6.");
        StarBailiff x = Checks.after("star 1 0;star 9 1;roof 20;roof 19");
        for (int far : FAR) {
            c.due("roof " + far, x.claim(far, 0), NONE);
            c.due("star " + far, x.claim(0, far), NONE);
        }
        c.due("roof 2", x.claim(2, 0), NONE);
        c.due("star 2", x.claim(0, 2), NONE);
        c.due("claim", x.claim(0, 0), 2);
        c.due("claimed", x.claim(1, 0), REFUSED);
        c.due("with all coins", x.claim(0, 1), 18);
        c.due("coins", x.roofOf(0, 0), 0);
        x.undo();
        Checks.then(x, "drop a;claim 1a");
        c.due("with 1 too few", x.claim(1, 1), REFUSED);
        c.due("coins", x.roofOf(1, 0), 17);
        c.due("claimant", x.starOf(1, 3), NOTHING);
        c.due("without a claim then", x.claim(0, 1), 18);
        // The cloud and the night do not matter to a claim.
        StarBailiff y = Checks.after("star 4 0;roof 8;cloud 0 9;dawn");
        c.due("claim of one that cannot be seen", y.claim(0, 0), 8);
    }

    private static void drop() {
        c.sentence("Returns the roof that claimed it; NONE if there is no such star; REFUSED for 7.");
        StarBailiff x = Checks.after("star 1 0;star 1 1;roof 9;roof 9;roof 9;roof 9;roof 9");
        for (int far : FAR) {
            c.due("star " + far, x.drop(far), NONE);
        }
        c.due("star 2", x.drop(2), NONE);
        c.due("without a claim", x.drop(0), REFUSED);
        for (int roof = 0; roof < 5; roof++) {
            x.claim(roof, 1);
            c.due("drop of another", x.drop(0), REFUSED);
            c.due("drop", x.drop(1), roof);
            c.due("drop again", x.drop(1), REFUSED);
        }
    }

    private static void wish() {
        c.sentence("Returns the number of the wish; NONE if there is no such roof or star; BAD if there is no such kind; "
                + "REFUSED for 4 or 1.");
        StarBailiff x = Checks.after("star 1 0;star 9 1;roof 20;roof 19;sight 0a;sight 1b");
        for (int far : FAR) {
            c.due("roof " + far, x.wish(far, 0, 0), NONE);
            c.due("star " + far, x.wish(0, far, 0), NONE);
            c.due("kind " + far, x.wish(0, 0, far), BAD);
        }
        c.due("roof 2", x.wish(2, 0, 0), NONE);
        c.due("star 2", x.wish(0, 2, 0), NONE);
        c.due("kind 10", x.wish(0, 0, 10), BAD);
        c.due("not sighted", x.wish(0, 1, 0), REFUSED);
        c.due("not sighted by the other", x.wish(1, 0, 0), REFUSED);
        for (int wish = 0; wish < 8; wish++) {
            c.due("wish", x.wish(wish % 2, wish % 2, wish + 2), wish);
            c.due("roof of it", x.wishOf(wish, 0), wish % 2);
            c.due("star of it", x.wishOf(wish, 1), wish % 2);
            c.due("kind of it", x.wishOf(wish, 2), wish + 2);
        }
        c.due("one more", x.wish(0, 0, 0), REFUSED);
        x.undo();
        c.due("the eighth again", x.wish(0, 0, 0), 7);
    }

    private static void pay() {
        c.sentence("how many, from 1 to 99");
        for (int far : new int[] {Integer.MIN_VALUE, -1, 0, 100, Integer.MAX_VALUE}) {
            StarBailiff x = Checks.poor(9);
            Checks.earn(x, 16);
            c.due("pay of " + far, x.pay(0, far), BAD);
            c.due("debt", x.debt(0), 18);
        }

        c.sentence("Returns the debt then; NONE if there is no such roof; BAD if the number is out of range; REFUSED for 6 "
                + "or 8.");
        StarBailiff x = Checks.poor(1);
        Checks.earn(x, 12);
        for (int far : FAR) {
            c.due("roof " + far, x.pay(far, 1), NONE);
        }
        c.due("roof 4", x.pay(4, 1), NONE);
        c.due("more than the coins", x.pay(0, 13), REFUSED);
        c.due("more than the debt", x.pay(0, 11), REFUSED);
        c.due("all the debt", x.pay(0, 10), 0);
        c.due("coins", x.roofOf(0, 0), 2);
        x.undo();
        c.due("1", x.pay(0, 1), 9);
        c.due("the rest", x.pay(0, 9), 0);
        c.due("without a debt", x.pay(0, 1), REFUSED);
        StarBailiff y = Checks.poor(1);
        Checks.earn(y, 5);
        c.due("1 more than the coins", y.pay(0, 6), REFUSED);
        c.due("all coins", y.pay(0, 5), 5);
        c.due("coins", y.roofOf(0, 0), 0);
    }

    /** The most that can be paid at once takes a debt of 99: 11 levies of 9, and the coins of many nights. */
    private static void payOfMany() {
        StarBailiff x = Checks.after("star 9 0;star 9 1;star 9 2;star 9 3;roof 18;claim 0a;roof 99;roof 99;roof 99;roof 99");
        for (int night = 0; night < 4; night++) {
            Checks.then(x, "sight 0b;sight 0c;sight 0d;dawn");
        }
        c.due("debt", x.debt(0), 108);
        for (int night = 0; night < 7; night++) {
            Checks.then(x, "sight 1a;sight 2a;sight 3a;sight 4a;dawn");
        }
        c.due("coins", x.roofOf(0, 0), 112);
        c.due("pay of 100", x.pay(0, 100), BAD);
        c.due("pay of 99", x.pay(0, 99), 9);
        c.due("coins then", x.roofOf(0, 0), 13);
        c.due("debtAgain then", x.debtAgain(0), 9);
        c.due("paid", x.account(9), 99 + 7 * 36);
    }

    private static void pound() {
        c.sentence("Lets the bailiff impound all wishes of a roof that are not impounded yet.");
        StarBailiff x = Checks.poor(9);
        Checks.then(x, "roof 9;sight 1a;wish 1a1;wish 0a2;pound 0;dawn;sight 0a;wish 0a3;sight 1a;wish 1a4");
        int[] nights = {1, 1, NOTHING, NOTHING};
        for (int wish = 0; wish < 4; wish++) {
            c.due("nights of " + wish, x.wishOf(wish, 4), nights[wish]);
        }
        c.due("pound of the one that is not", x.pound(0), 1);
        nights[2] = 0;
        for (int wish = 0; wish < 4; wish++) {
            c.due("nights of " + wish + " then", x.wishOf(wish, 4), nights[wish]);
        }

        c.sentence("Returns how many these are; NONE if there is no such roof; REFUSED for 9, 10 or 11.");
        for (int far : FAR) {
            c.due("roof " + far, x.pound(far), NONE);
        }
        c.due("roof 2", x.pound(2), NONE);
        for (int wishes = 1; wishes <= 8; wishes++) {
            StarBailiff y = Checks.poor(9);
            for (int wish = 1; wish < wishes; wish++) {
                y.wish(0, 0, wish);
            }
            y.stay(0, 1);
            c.due("under a stay", y.pound(0), REFUSED);
            y.stay(0, 0);
            c.due("pound", y.pound(0), wishes);
            c.due("impounded", y.roofOf(0, 3), wishes);
            c.due("pound again", y.pound(0), REFUSED);
        }
        StarBailiff z = Checks.after("star 9 0;roof 0;sight 0a;wish 0a1");
        c.due("debt 9", z.pound(0), REFUSED);
    }

    private static void redeem() {
        c.sentence("Returns what that costs; NONE if there is no such wish; REFUSED for 12 or 6.");
        StarBailiff x = Checks.poor(2);
        x.wish(0, 0, 9);
        for (int far : FAR) {
            c.due("wish " + far, x.redeem(far), NONE);
        }
        c.due("wish 2", x.redeem(2), NONE);
        c.due("not impounded", x.redeem(1), REFUSED);
        x.pound(0);
        c.due("without coins", x.redeem(1), REFUSED);
        Checks.earn(x, 3);
        c.due("redeem", x.redeem(1), 2);
        c.due("redeem again", x.redeem(1), REFUSED);
        c.due("with 1 too few", x.redeem(0), REFUSED);
        c.due("impounded still", x.wishOf(0, 4), 0);
        c.due("coins", x.roofOf(0, 0), 1);
        Checks.earn(x, 1);
        c.due("with all coins", x.redeem(0), 2);
        // It is the roof of the wish that pays.
        c.due("coins of the others", x.roofOf(1, 0) + x.roofOf(2, 0), 0);
    }

    private static void stay() {
        c.sentence("for how many nights, from 0 to 9");
        for (int nights : new int[] {Integer.MIN_VALUE, -1, 10, Integer.MAX_VALUE}) {
            StarBailiff x = Checks.after("roof 1;stay 0 5");
            c.due("stay for " + nights, x.stay(0, nights), BAD);
            c.due("stay", x.roofOf(0, 1), 5);
        }
        c.due("stay for 0", Checks.after("roof 1;stay 0 5").stay(0, 0), 5);
        c.due("stay for 9", Checks.after("roof 1;stay 0 5").stay(0, 9), 5);

        c.sentence("Gives a roof a stay, in place of the one that it has.");
        StarBailiff x = Checks.after("roof 1;roof 2;stay 0 9;stay 0 3");
        c.due("stay", x.roofOf(0, 1), 3);
        c.due("stay of the other", x.roofOf(1, 1), 0);

        c.sentence("Returns for how many nights it was before; NONE if there is no such roof; BAD if the number is out of "
                + "range; REFUSED for 2.");
        for (int far : FAR) {
            c.due("roof " + far, x.stay(far, 1), NONE);
        }
        c.due("roof 2", x.stay(2, 1), NONE);
        c.due("as it is", x.stay(0, 3), REFUSED);
        c.due("1 more", x.stay(0, 4), 3);
        c.due("1 less", x.stay(0, 3), 4);
        x.dawn();
        c.due("as it was ahead of the dawn", x.stay(0, 3), 2);
        c.due("none as it is", x.stay(1, 0), REFUSED);
        c.due("first", x.stay(1, 1), 0);
        c.due("none", x.stay(1, 0), 1);
    }

    private static void dawn() {
        c.sentence("Returns how many wishes are granted.");
        c.due("of a new one", new StarBailiff().dawn(), 0);
        for (int wishes = 0; wishes <= 8; wishes++) {
            StarBailiff x = Checks.after("star 9 0;star 5 1;roof 0;sight 0a;sight 0b");
            for (int wish = 0; wish < 8; wish++) {
                x.wish(0, wish < wishes ? 0 : 1, 4);
            }
            x.cloud(1, 5);
            c.due("dawn", x.dawn(), wishes);
            c.due("wishes", x.account(2), 8 - wishes);
            c.due("granted", x.account(10), wishes);
            c.due("dawn then", x.dawn(), 8 - wishes);
        }
    }

    private static void readAllOrNone() {
        c.sentence("Carries out the commands of the input, one after the other, all of them or none. The input is empty then, "
                + "whatever is returned.");
        StarBailiff x = new StarBailiff();
        c.due("each on what the one before left", Checks.read(x, "star 9 0;roof 9;sight 0a;wish 0a1;dawn;cloud 0 9"), 6);
        c.due("granted", x.account(10), 1);
        c.due("input", x.account(12), 0);
        String before = Checks.picture(x);
        String[] none = {"roof 1;drop a", "sight 0b;roof 1", "roof 1;dawn;dawn;drop a;dawn", "roof 1;dawn;",
            "star 1 1;claim 0a;roof 2"};
        int[] codes = {REFUSED, REFUSED, REFUSED, BAD, REFUSED};
        for (int i = 0; i < none.length; i++) {
            c.due(none[i], Checks.read(x, none[i]), codes[i]);
            c.same(none[i], Checks.picture(x), before);
            c.due("input", x.account(12), 0);
        }
        c.due("changes", x.account(13), 1);
        c.due("input once more", x.append('d'), 1);
    }

    private static void readCodes() {
        c.sentence("Returns the number of commands; BAD, where the fault position is kept; REFUSED for 13 or 14.");
        String text = "dawn";
        for (int commands = 1; commands <= 12; commands++) {
            StarBailiff x = new StarBailiff();
            c.due(text, Checks.read(x, text), commands);
            c.due("fault", x.fault(), NOTHING);
            c.due("nights", x.account(5), commands);
            text = text + ";dawn";
        }
        StarBailiff x = new StarBailiff();
        c.due("a fault", Checks.read(x, "dawn;x"), BAD);
        c.due("its position", x.fault(), 5);
        c.due("no reason", x.reason(0, false), NOTHING);
        c.due("a fault behind what is refused", Checks.read(x, "cloud 0 0;x"), BAD);
        c.due("its position", x.fault(), 10);
        c.due("no reason", x.reason(0, false), NOTHING);
        c.due("13", Checks.read(x, "cloud 0 0"), REFUSED);
        c.due("reason", x.reason(0, false), 13);
        c.due("14", Checks.read(x, "drop a"), REFUSED);
        c.due("reason", x.reason(0, false), 14);
        c.due("the position is kept", x.fault(), 10);
    }

    private static void fault() {
        c.sentence("Returns the fault position of the latest text that had a fault.");
        StarBailiff x = new StarBailiff();
        int[] positions = {4, 0, 5, 2, 60};
        String[] texts = {"roof", "", "dawn;", "dax", "dawn;dawn;dawn;dawn;dawn;dawn;dawn;dawn;dawn;dawn;dawn;dawn;"};
        for (int i = 0; i < texts.length; i++) {
            c.due(texts[i], Checks.read(x, texts[i]), BAD);
            c.due("fault of " + texts[i], x.fault(), positions[i]);
            Checks.read(x, "dawn");
            Checks.read(x, "drop a");
            c.due("fault after texts without one", x.fault(), positions[i]);
        }

        c.sentence("Returns the position; NOTHING if none had one.");
        StarBailiff y = new StarBailiff();
        c.due("of a new one", y.fault(), NOTHING);
        Checks.read(y, "dawn");
        Checks.read(y, "drop a");
        Checks.feed(y, "x");
        c.due("while it is not read", y.fault(), NOTHING);
        y.read();
        c.due("when it is read", y.fault(), 0);
    }

    private static void reason() {
        c.sentence("Returns the number; BAD if depth is not from 0 to 1; NOTHING if nothing was refused, or there is none "
                + "behind it.");
        StarBailiff x = new StarBailiff();
        reasons(x, NOTHING, NOTHING, NOTHING, NOTHING);
        x.roof(100);
        x.drop(0);
        Checks.read(x, "x");
        reasons(x, NOTHING, NOTHING, NOTHING, NOTHING);
        x.cloud(0, 0);
        reasons(x, 2, 0, NOTHING, NOTHING);
        Checks.read(x, "cloud 0 7;cloud 0 7");
        reasons(x, 13, 1, 2, 7);
        Checks.read(x, "dawn;drop a");
        reasons(x, 14, 1, NOTHING, NOTHING);
        Checks.read(x, "cloud 1 0");
        reasons(x, 13, 0, 2, 0);
        Checks.then(x, "star 1 0;roof 5");
        x.sight(0, 1);
        reasons(x, 13, 0, 2, 0);
        x.drop(0);
        reasons(x, 7, 0, NOTHING, NOTHING);
    }

    private static void reasons(StarBailiff x, int reason, int detail, int reasonBehind, int detailBehind) {
        c.due("reason", x.reason(0, false), reason);
        c.due("detail", x.reason(0, true), detail);
        c.due("reason behind", x.reason(1, false), reasonBehind);
        c.due("detail behind", x.reason(1, true), detailBehind);
        for (int depth : new int[] {Integer.MIN_VALUE, -1, 2, Integer.MAX_VALUE}) {
            c.due("reason at " + depth, x.reason(depth, false), BAD);
            c.due("detail at " + depth, x.reason(depth, true), BAD);
        }
    }
}
