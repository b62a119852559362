/** Promises 1 to 4: a new object, day, merchant, grow. */
public final class PortTest {
    private static final int[] FAR = {Integer.MIN_VALUE, -1000, -2, -1, 1000000, Integer.MAX_VALUE};

    public static void main(String[] args) {
        Checks c = new Checks("PortTest");
        promise1NewObject(c);
        promise2Day(c);
        promise3Merchant(c);
        promise4Grow(c);
        c.end();
    }

    private static void promise1NewObject(Checks c) {
        StaplePort x = new StaplePort();
        for (int what = 0; what <= 10; what++) {
            c.due("new count(" + what + ")", x.count(what), 0);
        }
        c.due("new fault()", x.fault(), -1);
        c.due("new force(0)", x.force(0), -1);
        c.due("new force(3000)", x.force(3000), -1);
        c.due("new left(0)", x.left(0), -1);
        c.due("new lot(0, 0)", x.lot(0, 0), -1);
        c.due("new half(0, 0)", x.half(0, 0), -1);
        c.due("new over(0)", x.over(0), 0);
        c.due("new shipOf(0, 0)", x.shipOf(0, 0), -1);
        c.due("new part(0, 0)", x.part(0, 0), -1);
        for (int what = 0; what <= 6; what++) {
            c.due("new sum(7, 3, " + what + ")", x.sum(7, 3, what), 0);
        }
        StaplePort other = new StaplePort();
        x.day(5);
        x.merchant(0);
        c.due("the other one's day", other.count(0), 0);
        c.due("the other one's merchants", other.count(1), 0);
    }

    private static void promise2Day(Checks c) {
        StaplePort x = new StaplePort();
        c.due("day(0) on day 0", x.day(0), false);
        c.due("day(-1)", x.day(-1), false);
        c.due("day(3001)", x.day(3001), false);
        c.due("TODAY", x.count(0), 0);
        c.due("day(1)", x.day(1), true);
        c.due("TODAY", x.count(0), 1);
        c.due("day(1) again", x.day(1), false);
        c.due("day(700)", x.day(700), true);
        c.due("day(699)", x.day(699), false);
        c.due("TODAY", x.count(0), 700);
        c.due("day(3000)", x.day(3000), true);
        c.due("TODAY", x.count(0), 3000);
        c.due("day(3001) on day 3000", x.day(3001), false);
        for (int d : FAR) {
            c.due("day(" + d + ")", x.day(d), false);
        }
        c.due("TODAY", x.count(0), 3000);
    }

    private static void promise3Merchant(Checks c) {
        StaplePort x = new StaplePort();
        c.due("merchant(3)", x.merchant(3), -1);
        for (int man : FAR) {
            c.due("merchant(" + man + ")", x.merchant(man), -1);
        }
        c.due("MERCHANTS", x.count(1), 0);
        for (int i = 0; i < 20; i++) {
            c.due("merchant " + i, x.merchant(i % 3), i);
            c.due("MERCHANTS", x.count(1), i + 1);
        }
        c.due("the 21st merchant", x.merchant(0), -1);
        c.due("MERCHANTS", x.count(1), 20);
        c.due("bring of the 20th", x.bring(19, 0, 0, 1), 0);
        c.due("bring of a 21st", x.bring(20, 0, 0, 1), -2);
    }

    private static void promise4Grow(Checks c) {
        StaplePort x = new StaplePort();
        for (int shire = 0; shire < 8; shire++) {
            for (int sort = 0; sort < 4; sort++) {
                c.due("grow", x.grow(shire, sort, 10 * shire + sort), 10 * shire + sort);
            }
        }
        for (int shire = 0; shire < 8; shire++) {
            for (int sort = 0; sort < 4; sort++) {
                c.due("grow of 0", x.grow(shire, sort, 0), 10 * shire + sort);
            }
        }
        c.due("grow(7, 3, 1000)", x.grow(7, 3, 1000), 1073);
        c.due("grow(7, 3, 1000)", x.grow(7, 3, 1000), 2073);
        c.due("grow(7, 3, 1001)", x.grow(7, 3, 1001), -1);
        c.due("grow(7, 3, -1)", x.grow(7, 3, -1), -1);
        c.due("grow(8, 3, 1)", x.grow(8, 3, 1), -1);
        c.due("grow(-1, 3, 1)", x.grow(-1, 3, 1), -1);
        c.due("grow(7, 4, 1)", x.grow(7, 4, 1), -1);
        c.due("grow(7, -1, 1)", x.grow(7, -1, 1), -1);
        for (int far : FAR) {
            c.due("grow(" + far + ", 0, 1)", x.grow(far, 0, 1), -1);
            c.due("grow(0, " + far + ", 1)", x.grow(0, far, 1), -1);
            c.due("grow(0, 0, " + far + ")", x.grow(0, 0, far), -1);
        }
        c.due("sum(7, 3, 0)", x.sum(7, 3, 0), 2073);
        c.due("sum(0, 0, 0)", x.sum(0, 0, 0), 0);
        c.due("sum(6, 3, 0)", x.sum(6, 3, 0), 63);
    }

    private PortTest() {
    }
}
