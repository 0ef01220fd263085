/** All promises together: long runs of calls, each compared with the model, some of them with wild numbers. */
public final class ModelTest {
    private static final int RUNS = 10000;
    // With the longest step, the undos and the whole picture at the end a run stays within the 512 calls of an object.
    private static final int MOST_STEPS_CALLS = 210;
    private static final int[] WILD = {-1, -2, -4, 5, 8, 10, 100, Integer.MIN_VALUE, Integer.MAX_VALUE};
    private static final String[] CHANGES = {"star", "roof", "cloud", "sight", "sight", "sight", "sight", "claim", "drop",
        "wish", "wish", "wish", "pay", "pound", "redeem", "stay", "dawn"};
    private static final String[] ANSWERS = {"fault", "reason", "starOf", "roofOf", "wishOf", "cloudOf", "debt", "debtAgain",
        "seen", "seenAgain", "levy", "could", "couldAgain", "brightens", "cheapest", "wouldGrant", "richest", "brightest",
        "write", "writeSky", "written", "isWell", "meanCloud", "poundShare", "account"};
    private static final String[] RARE = {"undo", "undo", "undo", "save", "restore", "clear"};
    private static final String SIGNS = "abcdefghi0123456789 ;starwxyz!~AH";

    private static final Checks c = new Checks();
    // A seed of its own for each run, so that each run can be told and run again.
    private static long seed;
    private static StarBailiff x;
    private static Model model;
    private static int calls;
    private static int longest;

    public static void main(String[] args) {
        for (int run = 0; run < RUNS; run++) {
            seed = 7919L * run + 17;
            x = new StarBailiff();
            model = new Model();
            calls = 0;
            int wildness = below(3) == 0 ? 6 : 60;
            int end = 20 + below(MOST_STEPS_CALLS - 20);
            while (calls < end) {
                step(run, wildness);
            }
            back(run);
            picture(run);
        }
        c.due("longest run is within 512 calls", longest <= 512 ? 1 : 0, 1);
        c.end();
    }

    private static int below(int bound) {
        seed = seed * 6364136223846793005L + 1442695040888963407L;
        return (int) ((seed >>> 33) % bound);
    }

    private static void step(int run, int wildness) {
        int choice = below(100);
        if (choice < 45) {
            String name = CHANGES[below(CHANGES.length)];
            compare(run, name, number(name, 0, wildness), number(name, 1, wildness), number(name, 2, wildness));
        } else if (choice < 92) {
            String name = ANSWERS[below(ANSWERS.length)];
            compare(run, name, number(name, 0, wildness), number(name, 1, wildness), 0);
        } else if (choice < 96) {
            text(run, wildness);
        } else if (choice < 99) {
            String name = RARE[below(below(4) == 0 ? RARE.length : 3)];
            compare(run, name, 0, 0, 0);
        } else {
            compare(run, "append", below(4) == 0 ? below(200) : SIGNS.charAt(below(SIGNS.length())), 0, 0);
        }
    }

    private static int number(String name, int place, int wildness) {
        if (below(wildness) == 0) {
            return WILD[below(WILD.length)];
        }
        switch (name) {
            case "star": return place == 0 ? 1 + below(9) : below(4);
            case "roof": return below(3) == 0 ? below(100) : below(25);
            case "cloud": return place == 0 ? below(4) : below(10);
            case "pay": return place == 0 ? below(4) : 1 + below(8);
            case "stay": return place == 0 ? below(5) : below(3);
            case "sight": case "claim": case "wish": case "levy":
                return place == 0 ? below(4) : place == 1 ? below(7) : below(10);
            case "starOf": case "wishOf": return place == 0 ? below(8) : below(7);
            case "roofOf": return place == 0 ? below(5) : below(10);
            case "reason": return below(2);
            case "written": return below(14);
            case "account": return below(15);
            case "cloudOf": case "seen": case "seenAgain": case "brightens": case "writeSky": return below(4);
            case "redeem": case "brightest": return below(8);
            default: return below(5);
        }
    }

    /** Goes back in half of the runs, so that the picture at the end shows what comes back. */
    private static void back(int run) {
        int undos = below(2) == 0 ? 0 : 1 + below(9);
        for (int i = 0; i < undos; i++) {
            compare(run, "undo", 0, 0, 0);
        }
        if (below(6) == 0) {
            compare(run, "restore", 0, 0, 0);
        }
    }

    private static void picture(int run) {
        for (int number = 0; number < 8; number++) {
            for (int what = 0; what < 6; what++) {
                compare(run, "starOf", number, what, 0);
                compare(run, "wishOf", number, what, 0);
            }
        }
        for (int roof = 0; roof < 5; roof++) {
            for (int what = 0; what < 9; what++) {
                compare(run, "roofOf", roof, what, 0);
            }
            for (String name : new String[] {"debt", "debtAgain", "could", "couldAgain", "cheapest", "richest"}) {
                compare(run, name, roof, 0, 0);
            }
        }
        for (int sector = 0; sector < 4; sector++) {
            compare(run, "cloudOf", sector, 0, 0);
        }
        for (int what = 0; what < 14; what++) {
            compare(run, "account", what, 0, 0);
        }
        longest = Math.max(longest, calls);
    }

    private static void text(int run, int wildness) {
        StringBuilder text = new StringBuilder();
        int commands = 1 + below(7);
        for (int i = 0; i < commands; i++) {
            text.append(i == 0 ? "" : ";").append(command(wildness));
        }
        if (below(4) == 0) {
            text.setCharAt(below(text.length()), SIGNS.charAt(below(SIGNS.length())));
        }
        if (below(8) == 0) {
            text.setLength(below(text.length() + 1));
        }
        for (int i = 0; i < text.length() && i < 61; i++) {
            compare(run, "append", text.charAt(i), 0, 0);
        }
        compare(run, "read", 0, 0, 0);
    }

    private static String command(int wildness) {
        String name = CHANGES[below(CHANGES.length)];
        int a = Math.floorMod(number(name, 0, wildness), 100);
        int b = Math.floorMod(number(name, 1, wildness), 100);
        int d = Math.floorMod(number(name, 2, wildness), 100);
        switch (name) {
            case "dawn": return name;
            case "drop": return name + " " + (char) ('a' + a);
            case "sight": case "claim": return name + " " + a + (char) ('a' + b % 26);
            case "wish": return name + " " + a + (char) ('a' + b % 26) + d;
            case "roof": case "pound": case "redeem": return name + " " + a;
            default: return name + " " + a + " " + b;
        }
    }

    private static void compare(int run, String name, int a, int b, int d) {
        calls++;
        double want = model.call(name, a, b, d);
        c.due("run " + run + ", call " + calls + ", " + name + "(" + a + ", " + b + ", " + d + ")", call(name, a, b, d), want);
    }

    private static double call(String name, int a, int b, int d) {
        switch (name) {
            case "clear": return x.clear();
            case "append": return x.append((char) a);
            case "star": return x.star(a, b);
            case "roof": return x.roof(a);
            case "cloud": return x.cloud(a, b);
            case "sight": return x.sight(a, b);
            case "claim": return x.claim(a, b);
            case "drop": return x.drop(a);
            case "wish": return x.wish(a, b, d);
            case "pay": return x.pay(a, b);
            case "pound": return x.pound(a);
            case "redeem": return x.redeem(a);
            case "stay": return x.stay(a, b);
            case "dawn": return x.dawn();
            case "read": return x.read();
            case "fault": return x.fault();
            case "reason": return x.reason(a, b % 2 != 0);
            case "undo": return x.undo();
            case "save": return x.save();
            case "restore": return x.restore();
            default: return answer(name, a, b);
        }
    }

    private static double answer(String name, int a, int b) {
        switch (name) {
            case "starOf": return x.starOf(a, b);
            case "roofOf": return x.roofOf(a, b);
            case "wishOf": return x.wishOf(a, b);
            case "cloudOf": return x.cloudOf(a);
            case "debt": return x.debt(a);
            case "debtAgain": return x.debtAgain(a);
            case "seen": return x.seen(a);
            case "seenAgain": return x.seenAgain(a);
            case "levy": return x.levy(a, b);
            case "could": return x.could(a);
            case "couldAgain": return x.couldAgain(a);
            case "brightens": return x.brightens(a);
            case "cheapest": return x.cheapest(a);
            case "wouldGrant": return x.wouldGrant();
            case "richest": return x.richest(a);
            case "brightest": return x.brightest(a);
            case "write": return x.write(a);
            case "writeSky": return x.writeSky(a);
            case "written": return x.written(a);
            case "isWell": return x.isWell();
            case "meanCloud": return x.meanCloud();
            case "poundShare": return x.poundShare();
            default: return x.account(a);
        }
    }
}
