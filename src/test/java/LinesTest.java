/** Promises 35 to 37: the written line. */
public final class LinesTest {
    private static final int NONE = StarBailiff.NONE;
    private static final Checks c = new Checks();

    public static void main(String[] args) {
        promise35Write();
        promise36WriteSky();
        promise37Written();
        c.end();
    }

    private static void roofLine(StarBailiff x, int roof, String due) {
        c.due("write", x.write(roof), due.length());
        c.same("line", Checks.line(x), due);
    }

    private static void skyLine(StarBailiff x, int sector, String due) {
        c.due("writeSky", x.writeSky(sector), due.length());
        c.same("line", Checks.line(x), due);
    }

    private static void promise35Write() {
        StarBailiff x = Checks.after("star 9 0;star 8 1;roof 12;roof 99;roof 0;roof 5;roof 10");
        roofLine(x, 0, "0$12");
        roofLine(x, 1, "1$99");
        roofLine(x, 2, "2$0");
        roofLine(x, 4, "4$10");
        x.sight(0, 0);
        x.sight(0, 1);
        roofLine(x, 0, "0$0-5");
        x.stay(0, 2);
        roofLine(x, 0, "0$0-5s2");
        x.wish(0, 1, 7);
        roofLine(x, 0, "0$0-5s2w1");
        x.stay(0, 0);
        roofLine(x, 0, "0$0-5w1");
        Checks.then(x, "sight 3a;stay 3 9;sight 2a;sight 2b;wish 2a1;wish 2a2");
        roofLine(x, 3, "3$0-4s9");
        roofLine(x, 2, "2$0-17w2");
        Checks.then(x, "claim 1a;dawn;sight 4a;dawn;dawn");
        roofLine(x, 1, "1$85");
        Checks.then(x, "stay 1 3;sight 1b;wish 1b1");
        roofLine(x, 1, "1$77s3w1");
        roofLine(x, 2, "2$0-17");
        for (int wrong : new int[] {-1, 5, Integer.MIN_VALUE, Integer.MAX_VALUE}) {
            c.due("write of roof " + wrong, x.write(wrong), NONE);
        }
        c.same("line as before", Checks.line(x), "2$0-17");
        StarBailiff y = Checks.after("star 9 0;star 9 1;roof 99;claim 0a;roof 99;sight 1a;drop a;roof 12;sight 2a",
                "sight 2b");
        roofLine(y, 2, "2$0-6");
        StarBailiff rich = Checks.after("star 9 0;roof 99;claim 0a;roof 99;roof 99;roof 99");
        for (int night = 0; night < 3; night++) {
            Checks.then(rich, "sight 1a;sight 2a;sight 3a;dawn");
        }
        roofLine(rich, 0, "0$117");
    }

    private static void promise36WriteSky() {
        StarBailiff x = Checks.after("star 2 0;star 5 0;star 9 1;star 3 0;star 9 3;star 1 3;star 9 3;star 8 3");
        skyLine(x, 0, "ABD");
        skyLine(x, 1, "C");
        skyLine(x, 2, "");
        skyLine(x, 3, "EFGH");
        Checks.then(x, "cloud 0 3;cloud 1 9;cloud 2 7;cloud 3 8");
        skyLine(x, 0, "aBd~3");
        skyLine(x, 1, "c~9");
        skyLine(x, 2, "~7");
        skyLine(x, 3, "EfGh~8");
        x.dawn();
        skyLine(x, 0, "aBD~2");
        for (int wrong : new int[] {-1, 4, Integer.MIN_VALUE, Integer.MAX_VALUE}) {
            c.due("writeSky of " + wrong, x.writeSky(wrong), NONE);
        }
        c.same("line as before", Checks.line(x), "aBD~2");
        skyLine(new StarBailiff(), 0, "");
    }

    private static void promise37Written() {
        StarBailiff x = Checks.after("roof 12;star 9 0");
        for (int index : new int[] {-1, 0, 1, Integer.MIN_VALUE, Integer.MAX_VALUE}) {
            c.due("written of an empty line", x.written(index), NONE);
        }
        x.write(0);
        int[] due = {NONE, '0', '$', '1', '2', NONE};
        for (int index = -1; index < 5; index++) {
            c.due("written " + index, x.written(index), due[index + 1]);
        }
        c.due("written MIN", x.written(Integer.MIN_VALUE), NONE);
        c.due("written MAX", x.written(Integer.MAX_VALUE), NONE);
        x.dawn();
        x.undo();
        x.save();
        x.restore();
        c.same("line stays", Checks.line(x), "0$12");
        x.writeSky(0);
        c.same("line in place of the one before", Checks.line(x), "A");
        x.writeSky(1);
        c.same("empty line", Checks.line(x), "");
    }
}
