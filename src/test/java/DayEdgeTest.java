/** Promises 1 to 4 at their edges, a test for each sentence: a new object, day, merchant, grow. */
public final class DayEdgeTest {
    public static void main(String[] args) {
        Checks c = new Checks("DayEdgeTest");
        promise1NothingIsTold(c);
        promise1ObjectsShareNothing(c);
        promise2ALaterDay(c);
        promise2NotAbove3000(c);
        promise3Men(c);
        promise3UpTo20(c);
        promise3EachIsOfItsMan(c);
        promise4Sacks(c);
        promise4Shires(c);
        promise4Sorts(c);
        promise4AllOfThatShireAndSort(c);
        c.end();
    }

    private static void promise1NothingIsTold(Checks c) {
        c.says("TODAY is 0; nothing is told.");
        StaplePort x = new StaplePort();
        for (int what = 0; what <= 10; what++) {
            c.due("count(" + what + ")", x.count(what), 0);
        }
        for (int i = 0; i < 8 * 4 * 7; i++) {
            c.due("sum", x.sum(i / 28, i / 7 % 4, i % 7), 0);
        }
        for (int what = 0; what <= 14; what++) {
            c.due("lot(0, " + what + ")", x.lot(0, what), -1);
        }
        for (int what = 0; what <= 4; what++) {
            c.due("shipOf(0, " + what + ")", x.shipOf(0, what), -1);
        }
        c.due("fault()", x.fault(), -1);
        c.due("force(0)", x.force(0), -1);
        c.due("left(0)", x.left(0), -1);
        c.due("half(0, 0)", x.half(0, 0), -1);
        c.due("over(0)", x.over(0), 0);
        c.due("part(0, 0)", x.part(0, 0), -1);
    }

    private static void promise1ObjectsShareNothing(Checks c) {
        c.says("nothing is told");
        StaplePort one = new StaplePort();
        StaplePort other = new StaplePort();
        one.day(3000);
        one.merchant(2);
        one.grow(7, 3, 1000);
        one.feed(1, 2, 3, 4, 5);
        one.adopt(1);
        one.feed(1, 2, 3, 4, 5);
        one.bring(0, 7, 3, 500);
        one.ship(one.fleet(), 500);
        for (int what = 0; what <= 10; what++) {
            c.due("the other one's count(" + what + ")", other.count(what), 0);
        }
        c.due("the other one's fault()", other.fault(), -1);
        c.due("the other one's sum(7, 3, 0)", other.sum(7, 3, 0), 0);
    }

    private static void promise2ALaterDay(Checks c) {
        c.says("TODAY becomes a later day: true; false, doing nothing: it isn't");
        StaplePort x = new StaplePort();
        c.due("day(-1) on day 0", x.day(-1), false);
        c.due("day(0) on day 0", x.day(0), false);
        c.due("TODAY", x.count(0), 0);
        c.due("day(1) on day 0", x.day(1), true);
        c.due("TODAY", x.count(0), 1);
        c.due("day(0) on day 1", x.day(0), false);
        c.due("day(1) on day 1", x.day(1), false);
        c.due("TODAY", x.count(0), 1);
        c.due("day(1500)", x.day(1500), true);
        c.due("day(1499)", x.day(1499), false);
        c.due("day(1500) again", x.day(1500), false);
        c.due("TODAY", x.count(0), 1500);
        c.due("day(1501)", x.day(1501), true);
        c.due("TODAY", x.count(0), 1501);
    }

    private static void promise2NotAbove3000(Checks c) {
        c.says("or above 3,000");
        c.range("day", 1, 3000, d -> Checks.bit(new StaplePort().day(d)), d -> 1, 0);
        StaplePort x = new StaplePort();
        x.day(2999);
        c.due("day(3001)", x.day(3001), false);
        c.due("TODAY", x.count(0), 2999);
        c.due("day(3000)", x.day(3000), true);
        c.due("day(3000) again", x.day(3000), false);
        c.due("day(3001) on the last day", x.day(3001), false);
        c.due("TODAY", x.count(0), 3000);
    }

    private static void promise3Men(Checks c) {
        c.says("MERCHANTS, up to 20: of a MAN 0 to 2.");
        c.range("merchant", 0, 2, man -> new StaplePort().merchant(man), man -> 0, -1);
    }

    private static void promise3UpTo20(Checks c) {
        c.says("NONE, doing nothing: no such MAN, 20 are there.");
        StaplePort x = new StaplePort();
        for (int i = 0; i < 20; i++) {
            c.due("merchant of no MAN", x.merchant(3), -1);
            c.due("the " + i + "th", x.merchant(2), i);
        }
        for (int man = -1; man <= 3; man++) {
            c.due("the 21st, of man " + man, x.merchant(man), -1);
        }
        c.due("MERCHANTS", x.count(1), 20);
    }

    private static void promise3EachIsOfItsMan(Checks c) {
        c.says("A MERCHANT: the number.");
        StaplePort x = new StaplePort();
        for (int i = 0; i < 20; i++) {
            x.merchant((i * 7 + i / 5) % 3);
        }
        x.merchant(0);
        Checks.adoptText(x, "duty man 0 is 1; duty man 1 is 10; duty man 2 is 100;");
        int[] duty = {1, 10, 100};
        for (int i = 0; i < 20; i++) {
            c.due("DUTY of merchant " + i, x.custom(x.bring(i, 0, 0, 1)), duty[(i * 7 + i / 5) % 3]);
        }
    }

    private static void promise4Sacks(Checks c) {
        c.says("So many sacks (0 to 1,000) more were grown");
        c.range("grow(0, 0, sacks)", 0, 1000, sacks -> new StaplePort().grow(0, 0, sacks), sacks -> sacks, -1);
    }

    private static void promise4Shires(Checks c) {
        c.says("SHIRES 0 to 7");
        c.range("grow(shire, 0, 9)", 0, 7, shire -> new StaplePort().grow(shire, 0, 9), shire -> 9, -1);
    }

    private static void promise4Sorts(Checks c) {
        c.says("SORTS 0 to 3");
        c.range("grow(0, sort, 9)", 0, 3, sort -> new StaplePort().grow(0, sort, 9), sort -> 9, -1);
    }

    private static void promise4AllOfThatShireAndSort(Checks c) {
        c.says("all of that SHIRE and SORT");
        StaplePort x = new StaplePort();
        for (int i = 0; i < 64; i++) {
            c.due("grow", x.grow(i / 4 % 8, i % 4, i % 32 + 1), (i % 32 + 1) * (i / 32 + 1));
        }
        for (int i = 0; i < 32; i++) {
            c.due("grow of 0", x.grow(i / 4, i % 4, 0), 2 * (i + 1));
        }
        StaplePort y = new StaplePort();
        for (int i = 1; i <= 500; i++) {
            c.due("grow of the most", y.grow(7, 3, 1000), 1000 * i);
        }
    }

    private DayEdgeTest() {
    }
}
