/** Promises 16 to 18: texts of commands, their faults, and the reasons for what is refused. */
public final class ReadTest {
    private static final int BAD = StarBailiff.BAD;
    private static final int REFUSED = StarBailiff.REFUSED;
    private static final int NOTHING = StarBailiff.NOTHING;
    private static final Checks c = new Checks();

    public static void main(String[] args) {
        promise16EachCommand();
        promise16Numbers();
        promise16Counts();
        promise16AllOrNone();
        promise16OneChange();
        promise16EmptiesTheInput();
        promise17Words();
        promise17Places();
        promise17Ends();
        promise17LatestIsKept();
        promise18Depths();
        promise18RefusedCommand();
        promise18FailedCommand();
        promise18ReasonsStay();
        c.end();
    }

    private static StarBailiff prepared() {
        return Checks.after("star 9 0;star 1 1;star 8 2;roof 16;roof 99;claim 0c;sight 0a;sight 0b;wish 0a1;sight 1c");
    }

    /** Each command of a text does what its call does. */
    private static void promise16EachCommand() {
        String[] texts = {"star 7 3", "roof 42", "roof 4", "cloud 2 8", "sight 1b", "claim 1b", "drop c", "wish 0b9",
            "pay 0 3", "pay 0 04", "pound 0", "redeem 0", "stay 1 6", "dawn"};
        StarBailiff[] called = new StarBailiff[texts.length];
        for (int i = 0; i < texts.length; i++) {
            called[i] = prepared();
        }
        called[0].star(7, 3);
        called[1].roof(42);
        called[2].roof(4);
        called[3].cloud(2, 8);
        called[4].sight(1, 1);
        called[5].claim(1, 1);
        called[6].drop(2);
        called[7].wish(0, 1, 9);
        called[8].pay(0, 3);
        called[9].pay(0, 4);
        called[10].pound(0);
        called[11].pound(0);
        called[11].roof(99);
        called[11].sight(2, 2);
        called[11].dawn();
        called[11].sight(2, 2);
        called[11].redeem(0);
        called[12].stay(1, 6);
        called[13].dawn();
        for (int i = 0; i < texts.length; i++) {
            StarBailiff x = prepared();
            if (i == 11) {
                Checks.then(x, "pound 0;roof 99;sight 2c;dawn;sight 2c");
            }
            c.due(texts[i], Checks.read(x, texts[i]), 1);
            c.same(texts[i], Checks.picture(x), Checks.picture(called[i]));
        }
    }

    private static void promise16Numbers() {
        StarBailiff x = new StarBailiff();
        c.due("numbers", Checks.read(x, "roof 0;roof 00;roof 9;roof 99;roof 10"), 5);
        int[] coins = {0, 0, 9, 99, 10};
        for (int roof = 0; roof < 5; roof++) {
            c.due("coins", x.roofOf(roof, 0), coins[roof]);
        }
        c.due("letters a and h", Checks.read(x, "star 1 0;star 1 0;star 1 0;star 1 0;star 1 0;star 1 0"), 6);
        c.due("letters a and h", Checks.read(x, "star 1 0;star 1 0;sight 2a;sight 2h;sight 4h"), 5);
        c.due("a", x.starOf(0, 4), 1);
        c.due("h", x.starOf(7, 4), 2);
    }

    private static void promise16Counts() {
        c.due("one", Checks.read(new StarBailiff(), "dawn"), 1);
        c.due("two", Checks.read(new StarBailiff(), "dawn;roof 7"), 2);
        StarBailiff x = new StarBailiff();
        c.due("twelve", Checks.read(x, "dawn;dawn;dawn;dawn;dawn;dawn;dawn;dawn;dawn;dawn;dawn;dawn"), 12);
        c.due("nights", x.account(5), 12);
        c.due("in their order", Checks.read(x, "cloud 0 3;cloud 0 7;dawn;cloud 1 5"), 4);
        c.due("cloud 0", x.cloudOf(0), 6);
        c.due("cloud 1", x.cloudOf(1), 5);
    }

    private static void promise16AllOrNone() {
        String[] refused = {"star 2 3;dawn;drop a", "roof 5;cloud 3 4;cloud 3 4", "dawn;sight 1a;pay 0 1;pay 0 9",
            "sight 1a;wish 1a2;dawn;star 0 1", "pound 0;dawn;dawn;redeem 0", "claim 1b;stay 0 3;roof 1;sight 0d"};
        for (String text : refused) {
            StarBailiff x = prepared();
            String before = Checks.picture(x);
            c.due(text, Checks.read(x, text), REFUSED);
            c.same(text, Checks.picture(x), before);
            c.due("changes", x.account(13), 8);
            c.due("undo", x.undo(), 7);
        }
        StarBailiff x = prepared();
        String before = Checks.picture(x);
        c.due("with a fault at the end", Checks.read(x, "dawn;star 9 0;dawn "), BAD);
        c.same("with a fault at the end", Checks.picture(x), before);
    }

    private static void promise16OneChange() {
        StarBailiff x = new StarBailiff();
        c.due("read", Checks.read(x, "roof 1;dawn;roof 2"), 3);
        c.due("changes", x.account(13), 1);
        c.due("undo", x.undo(), 0);
        c.due("roofs", x.account(1), 0);
        c.due("nights", x.account(5), 0);
        Checks.read(x, "dawn;drop a");
        Checks.read(x, "daw");
        c.due("changes by errors", x.account(13), 0);
    }

    private static void promise16EmptiesTheInput() {
        StarBailiff x = new StarBailiff();
        c.due("well", Checks.read(x, "dawn"), 1);
        c.due("input then", x.account(12), 0);
        c.due("refused", Checks.read(x, "cloud 0 0"), REFUSED);
        c.due("input then", x.account(12), 0);
        c.due("bad", Checks.read(x, "cloud"), BAD);
        c.due("input then", x.account(12), 0);
        c.due("empty", x.read(), BAD);
        c.due("fault of an empty one", x.fault(), 0);
    }

    /** Each text that is cut short, or goes on with a character that cannot stand there, faults there. */
    private static void promise17Words() {
        String[] whole = {"star 1 2", "roof 0", "cloud 3 4", "sight 0a", "claim 1b", "drop c", "wish 0d5", "pay 0 1",
            "pound 2", "redeem 7", "stay 1 1", "dawn"};
        for (String text : whole) {
            for (int length = 0; length < text.length(); length++) {
                String cut = text.substring(0, length);
                c.faulty(cut, length);
                c.faulty("dawn;" + cut, 5 + length);
                c.faulty(cut + "!", length);
                c.faulty(cut + ";" + text, length);
                c.faulty(cut + "X" + text.substring(length + 1), length);
            }
            c.faulty(text + " ", text.length());
            c.faulty(text + "a", text.length());
            c.faulty(text + ",dawn", text.length());
            c.faulty(text + ";", text.length() + 1);
            c.faulty(text + ";;", text.length() + 1);
            c.faulty(text + "; dawn", text.length() + 1);
        }
    }

    private static void promise17Places() {
        c.faulty("stat 1 1", 3);
        c.faulty("rood 1", 3);
        c.faulty("clod", 3);
        c.faulty("claud 1 2", 3);
        c.faulty("dr0p a", 2);
        c.faulty("dap", 2);
        c.faulty("pat", 2);
        c.faulty("poy 1", 2);
        c.faulty("sta", 3);
        c.faulty("s", 1);
        c.faulty("sx", 1);
        c.faulty("i", 0);
        c.faulty("star 1", 6);
        c.faulty("star a 1", 5);
        c.faulty("star 10 1", 6);
        c.faulty("star 1 10", 8);
        c.faulty("star  1 1", 5);
        c.faulty("roof 123", 7);
        c.faulty("roof 1 2", 6);
        c.faulty("roof a", 5);
        c.faulty("pay 0 123", 8);
        c.faulty("pay 01 2", 5);
        c.faulty("sight 0i", 7);
        c.faulty("sight 0A", 7);
        c.faulty("sight 0`", 7);
        c.faulty("sight 00", 7);
        c.faulty("claim 0 a", 7);
        c.faulty("drop 0", 5);
        c.faulty("drop i", 5);
        c.faulty("drop ab", 6);
        c.faulty("wish 0a", 7);
        c.faulty("wish 0aa", 7);
        c.faulty("wish 0a10", 8);
        c.faulty("cloud 0 /", 8);
        c.faulty("cloud 0 :", 8);
        c.faulty("stay 1 12", 8);
        c.faulty("redeem 12", 8);
        c.faulty("pound 1;roof 12;dawn;drop x", 26);
        c.faulty("dawn dawn", 4);
        c.faulty(" dawn", 0);
        c.faulty("dawndawn", 4);
    }

    private static void promise17Ends() {
        String full = "dawn;dawn;dawn;dawn;dawn;dawn;dawn;dawn;dawn;dawn;dawn;dawn";
        c.faulty(full + ";", 60);
        c.faulty(full + "x", 59);
        c.faulty("star 9 0;star 9 0;star 9 0;star 9 0;star 9 0;star 9 0;roof ", 59);
    }

    private static void promise17LatestIsKept() {
        StarBailiff x = new StarBailiff();
        c.due("none", x.fault(), NOTHING);
        Checks.read(x, "dawn;cloud 0 0");
        c.due("none by a refusal", x.fault(), NOTHING);
        Checks.read(x, "dawn;star 1x");
        c.due("first", x.fault(), 11);
        Checks.read(x, "dawn");
        x.undo();
        c.due("kept", x.fault(), 11);
        Checks.read(x, "roof x");
        c.due("latest", x.fault(), 5);
        x.save();
        x.clear();
        x.restore();
        c.due("kept by all", x.fault(), 5);
    }

    private static void promise18Depths() {
        StarBailiff x = new StarBailiff();
        for (int wrong : new int[] {-1, 2, Integer.MIN_VALUE, Integer.MAX_VALUE}) {
            c.due("depth " + wrong, x.reason(wrong, false), BAD);
            c.due("depth " + wrong, x.reason(wrong, true), BAD);
        }
        c.due("none", x.reason(0, false), NOTHING);
        c.due("none", x.reason(0, true), NOTHING);
        c.due("none behind", x.reason(1, false), NOTHING);
        c.due("none behind", x.reason(1, true), NOTHING);
        x.star(0, 0);
        x.star(1, 4);
        c.due("none by other codes", x.reason(0, false), NOTHING);
        c.refused(x, "cloud as it is", x.cloud(0, 0), 2, 0);
        x.roof(3);
        x.drop(0);
        c.refused(x, "stay as it is", x.stay(0, 0), 2, 0);
        c.due("depth 2", x.reason(2, false), BAD);
    }

    private static void promise18RefusedCommand() {
        c.behind(new StarBailiff(), "cloud 0 0", 0, 2, 0);
        c.behind(new StarBailiff(), "dawn;cloud 0 5;cloud 0 5;roof 9", 2, 2, 5);
        c.behind(new StarBailiff(), "roof 1;roof 1;roof 1;roof 1;roof 1;roof 1", 5, 1, 5);
        StarBailiff x = prepared();
        c.behind(x, "sight 0a", 0, 3, 2);
        c.behind(x, "dawn;wish 0a1", 1, 4, 0);
        c.behind(x, "dawn;dawn;claim 1c", 2, 5, 0);
        c.behind(x, "claim 1b;roof 3;claim 2a", 2, 6, 15);
        c.behind(x, "drop c;drop c", 1, 7, 2);
        c.behind(x, "pay 0 3;pay 1 3", 1, 8, 0);
        c.behind(x, "stay 0 4;pound 0", 1, 9, 4);
        c.behind(x, "pound 1", 0, 10, 0);
        c.behind(x, "pound 0;pound 0", 1, 11, 1);
        c.behind(x, "redeem 0", 0, 12, 0);
        c.refused(x, "a call after it", x.drop(0), 7, 0);
    }

    private static void promise18FailedCommand() {
        String[] texts = {"dawn;star 0 1", "dawn;star 5 4", "dawn;cloud 4 1", "dawn;sight 2a", "dawn;sight 0d",
                "dawn;claim 5a",
            "dawn;drop h", "dawn;wish 3a1", "dawn;pay 0 0", "dawn;pay 7 1", "dawn;pound 9", "dawn;redeem 8",
                "dawn;stay 2 1"};
        for (String text : texts) {
            StarBailiff x = prepared();
            x.cloud(0, 0);
            c.refused(x, text, Checks.read(x, text), 14, 1);
        }
        StarBailiff x = prepared();
        c.refused(x, "the first that fails", Checks.read(x, "dawn;dawn;drop d;drop a;dawn"), 14, 2);
        c.behind(x, "dawn;drop a;drop d", 1, 7, 0);
        c.refused(x, "none behind", Checks.read(x, "star 0 0"), 14, 0);
    }

    private static void promise18ReasonsStay() {
        StarBailiff x = prepared();
        c.behind(x, "dawn;drop a", 1, 7, 0);
        Checks.read(x, "dxwn");
        x.star(0, 0);
        x.dawn();
        x.undo();
        x.save();
        x.clear();
        x.restore();
        c.due("reason", x.reason(0, false), 13);
        c.due("detail", x.reason(0, true), 1);
        c.due("reason behind", x.reason(1, false), 7);
        c.due("detail behind", x.reason(1, true), 0);
    }
}
