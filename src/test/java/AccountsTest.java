/** Promises 38 to 44: what is alike both ways, shares, accounts, undo and saving. */
public final class AccountsTest {
    private static final int NOTHING = StarBailiff.NOTHING;
    private static final Checks c = new Checks();

    public static void main(String[] args) {
        promise38IsWell();
        promise39MeanCloud();
        promise40PoundShare();
        promise41Account();
        promise41LaterAccounts();
        promise42UndoOfEachChange();
        promise42UndoOfEight();
        promise42UndoOfEightAfterErrors();
        promise42UndoOfRows();
        promise42UndoAndChangeAgain();
        promise42NoChanges();
        promise43Save();
        promise44Restore();
        c.end();
    }

    private static void promise38IsWell() {
        StarBailiff x = new StarBailiff();
        c.due("isWell of a new one", x.isWell(), 1);
        String[] steps = {"star 9 0", "star 4 0", "roof 5", "roof 50", "claim 1a", "cloud 0 4", "sight 0a", "sight 1a",
            "sight 0b", "dawn", "sight 0a", "wish 0a1", "wish 0a2", "pound 0", "dawn", "redeem 0", "pay 0 1", "dawn",
                "dawn"};
        for (String step : steps) {
            Checks.read(x, step);
            c.due("isWell after " + step, x.isWell(), 1);
        }
        x.undo();
        c.due("isWell after undo", x.isWell(), 1);
    }

    private static void promise39MeanCloud() {
        StarBailiff x = new StarBailiff();
        c.due("meanCloud", x.meanCloud(), 0.0);
        double[] means = {0.25, 0.75, 3.0, 5.25};
        int[] clouds = {1, 2, 9, 9};
        for (int sector = 0; sector < 4; sector++) {
            x.cloud(sector, clouds[sector]);
            c.due("meanCloud", x.meanCloud(), means[sector]);
        }
        x.dawn();
        c.due("meanCloud", x.meanCloud(), 4.25);
    }

    private static void promise40PoundShare() {
        StarBailiff x = Checks.after("star 9 0;star 9 1;roof 0;roof 99;sight 0a;sight 0b;sight 1a");
        c.due("poundShare without wishes", x.poundShare(), 0.0f);
        Checks.then(x, "wish 1a1;wish 1a2");
        c.due("poundShare of none", x.poundShare(), 0.0f);
        Checks.then(x, "wish 0a1;pound 0");
        c.due("poundShare of a third", x.poundShare(), 1.0f / 3.0f);
        Checks.then(x, "wish 0b2;pound 0");
        c.due("poundShare of a half", x.poundShare(), 0.5f);
        Checks.then(x, "wish 1a1;wish 1a1;wish 1a1");
        c.due("poundShare of two sevenths", x.poundShare(), 2.0f / 7.0f);
        x.dawn();
        c.due("poundShare of all", x.poundShare(), 1.0f);
    }

    private static void accounts(StarBailiff x, int... due) {
        for (int what = 0; what < due.length; what++) {
            c.due("account " + what, x.account(what), due[what]);
        }
    }

    private static void promise41Account() {
        StarBailiff x = Checks.after("star 9 0;star 8 1;star 3 2;roof 20;roof 99;claim 1b;cloud 2 4");
        accounts(x, 3, 2, 0, 0, 1, 0, 0, 0, 0, 0, 0, 0, 0, 7);
        Checks.then(x, "sight 0a;sight 0b;sight 0c;sight 1b;wish 0a1;wish 0b2;wish 1b3");
        accounts(x, 3, 2, 3, 0, 1, 0, 4, 1, 17, 17, 0, 0, 0, 8);
        Checks.feed(x, "pound");
        accounts(x, 3, 2, 3, 0, 1, 0, 4, 1, 17, 17, 0, 0, 5, 8);
        for (int wrong : new int[] {-1, 14, Integer.MIN_VALUE, Integer.MAX_VALUE}) {
            c.due("account " + wrong, x.account(wrong), StarBailiff.BAD);
        }
    }

    private static void promise41LaterAccounts() {
        StarBailiff x = Checks.after("star 8 0;star 9 1;roof 16;roof 99;claim 0a;sight 0b;roof 99;wish 0b1;dawn",
                "sight 0b;wish 0b2;wish 0b3;pound 0");
        accounts(x, 2, 3, 2, 2, 1, 1, 2, 0, 18, 0, 1, 0, 0, 8);
        Checks.then(x, "sight 1a;sight 2a;pay 0 2;dawn;claim 2b;drop a");
        accounts(x, 2, 3, 2, 2, 1, 2, 4, 0, 34, 18, 1, 0, 0, 8);
        Checks.then(x, "dawn;dawn");
        accounts(x, 2, 3, 0, 0, 1, 4, 4, 0, 34, 18, 1, 2, 0, 8);
    }

    private static StarBailiff prepared() {
        return Checks.after("star 8 0;star 9 1;star 2 2;roof 16;claim 0a;sight 0b;sight 0c;wish 0b1;pound 0;wish 0c2",
                "roof 99;roof 99;roof 99;sight 1a;sight 2a;sight 3a;sight 1c;stay 1 5;cloud 3 8");
    }

    private static void promise42UndoOfEachChange() {
        String[] changes = {"star 7 3", "roof 42", "cloud 3 0", "sight 2b", "star 5 3;sight 2d", "claim 2b", "drop a", "wish 1a3", "pay 0 3",
            "redeem 0", "stay 1 9", "dawn", "pound 0", "dawn;dawn;dawn;star 1 1;roof 9"};
        for (String change : changes) {
            StarBailiff x = prepared();
            if (change.equals("pound 0")) {
                Checks.then(x, "dawn;sight 0b;wish 0b9");
            }
            String before = Checks.picture(x);
            c.due(change, Checks.read(x, change) > 0 ? 1 : 0, 1);
            c.due("picture differs after " + change, Checks.picture(x).equals(before) ? 1 : 0, 0);
            c.due("undo of " + change, x.undo(), 7);
            c.same("undone " + change, Checks.picture(x), before);
        }
    }

    private static void promise42UndoOfEight() {
        StarBailiff x = new StarBailiff();
        for (int night = 1; night <= 11; night++) {
            x.dawn();
            c.due("changes", x.account(13), Math.min(night, 8));
        }
        for (int left = 7; left >= 0; left--) {
            c.due("undo", x.undo(), left);
            c.due("nights", x.account(5), 3 + left);
            c.due("changes", x.account(13), left);
        }
        c.due("undo of none", x.undo(), NOTHING);
        c.due("nights", x.account(5), 3);
    }

    /** Calls that fail, and reads that are taken back, are no changes and spoil none of the eight. */
    private static void promise42UndoOfEightAfterErrors() {
        StarBailiff x = new StarBailiff();
        String[] pictures = new String[10];
        for (int night = 0; night < 10; night++) {
            pictures[night] = Checks.picture(x);
            x.dawn();
        }
        x.drop(0);
        Checks.read(x, "dawn;roof 5;drop a");
        x.roof(100);
        for (int left = 7; left >= 0; left--) {
            c.due("undo", x.undo(), left);
            c.same("picture", Checks.picture(x), pictures[left + 2]);
        }
        c.due("undo of none", x.undo(), NOTHING);
    }

    /** Each number of each star, roof and wish comes back, though others stood in its place. */
    private static void promise42UndoOfRows() {
        StarBailiff x = prepared();
        Checks.then(x, "wish 0b3;wish 1c4;wish 1a5;cloud 1 9;dawn;sight 0b;cloud 1 0");
        String open = Checks.picture(x);
        Checks.then(x, "dawn");
        String gone = Checks.picture(x);
        Checks.then(x, "sight 1c;wish 1c9;sight 1b;wish 1b8");
        for (int i = 0; i < 4; i++) {
            x.undo();
        }
        c.same("before the new wishes", Checks.picture(x), gone);
        x.undo();
        c.same("before the dawn", Checks.picture(x), open);
    }

    private static void promise42UndoAndChangeAgain() {
        StarBailiff x = Checks.after("roof 1;roof 2;roof 3;dawn");
        c.due("undo", x.undo(), 3);
        c.due("undo", x.undo(), 2);
        c.due("roof", x.roof(30), 2);
        c.due("changes", x.account(13), 3);
        for (int i = 0; i < 7; i++) {
            x.dawn();
        }
        c.due("changes", x.account(13), 8);
        for (int left = 7; left > 0; left--) {
            c.due("undo", x.undo(), left);
        }
        c.due("roofs", x.account(1), 3);
        c.due("coins", x.roofOf(2, 0), 30);
        c.due("undo of the roof", x.undo(), 0);
        c.due("roofs then", x.account(1), 2);
        c.due("undo of none", x.undo(), NOTHING);
        c.due("roofs kept", x.account(1), 2);
    }

    private static void promise42NoChanges() {
        StarBailiff x = Checks.after("roof 1");
        x.roof(100);
        x.drop(0);
        x.save();
        x.append('a');
        x.read();
        x.append('d');
        x.write(0);
        x.could(0);
        c.due("changes", x.account(13), 1);
        x.write(0);
        c.due("undo", x.undo(), 0);
        c.due("input stays", x.account(12), 1);
        c.due("fault stays", x.fault(), 0);
        c.due("reason stays", x.reason(0, false), StarBailiff.NOTHING);
        c.same("line stays", Checks.line(x), "0$1");
        c.due("roofs", x.account(1), 0);
    }

    private static void promise43Save() {
        c.due("save of a new one", new StarBailiff().save(), 0);
        StarBailiff x = prepared();
        String before = Checks.picture(x);
        int changes = x.account(13);
        c.due("save", x.save(), 3);
        c.due("changes", x.account(13), changes);
        c.due("undo after save", x.undo(), changes - 1);
        x.dawn();
        x.star(1, 1);
        c.due("restore", x.restore(), 3);
        c.same("restored", Checks.picture(x), before);
        x.dawn();
        x.star(4, 1);
        String latest = Checks.picture(x);
        c.due("save in place of it", x.save(), 4);
        x.clear();
        x.restore();
        c.same("restored latest", Checks.picture(x), latest);
        c.due("differs", before.equals(latest) ? 1 : 0, 0);
    }

    private static void promise44Restore() {
        StarBailiff x = Checks.after("roof 5;star 3 3");
        c.due("restore without a save", x.restore(), NOTHING);
        c.due("changes kept", x.account(13), 2);
        c.due("roofs kept", x.account(1), 1);
        x.save();
        Checks.then(x, "star 4 1;dawn;sight 0a");
        Checks.feed(x, "dawn");
        x.write(0);
        x.drop(0);
        c.due("restore", x.restore(), 1);
        c.due("changes gone", x.account(13), 0);
        c.due("undo", x.undo(), NOTHING);
        c.due("nights", x.account(5), 0);
        c.due("input stays", x.account(12), 4);
        c.due("reason stays", x.reason(0, false), 7);
        c.same("line stays", Checks.line(x), "0$2");
        c.due("read", x.read(), 1);
        x.clear();
        c.due("restore again", x.restore(), 1);
        c.due("coins", x.roofOf(0, 0), 5);
        // What comes after a restore does not touch what was saved.
        Checks.then(x, "sight 0a");
        c.due("restore once more", x.restore(), 1);
        c.due("coins as saved", x.roofOf(0, 0), 5);
        StarBailiff full = prepared();
        Checks.then(full, "star 5 3;roof 17;sight 4d;wish 1c6;wish 1c7");
        String picture = Checks.picture(full);
        full.save();
        full.clear();
        Checks.then(full, "star 1 3;star 2 2;star 3 1;star 4 0;roof 1;roof 2;roof 3;roof 4;roof 5;sight 4a;sight 3b");
        Checks.then(full, "wish 4a3;wish 3b4;cloud 1 1;cloud 2 2;stay 4 4");
        full.restore();
        c.same("restored over others", Checks.picture(full), picture);
        StarBailiff empty = new StarBailiff();
        empty.save();
        empty.star(1, 1);
        c.due("restore of an empty sky", empty.restore(), 0);
        c.due("stars", empty.account(0), 0);
    }
}
