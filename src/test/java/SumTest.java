/** Promises 27 and 28: sum, count. */
public final class SumTest {
    private static final int[] FAR = {Integer.MIN_VALUE, -1000, -1, 1000000000, Integer.MAX_VALUE};

    public static void main(String[] args) {
        Checks c = new Checks("SumTest");
        promise27Sum(c);
        promise27NotAsTold(c);
        promise28Count(c);
        promise28CountOfBonds(c);
        c.end();
    }

    private static void promise27Sum(Checks c) {
        StaplePort x = Checks.portWithMerchants(2);
        x.grow(5, 2, 300);
        x.grow(5, 3, 7);
        x.bring(0, 5, 2, 100);
        x.bring(1, 5, 2, 90);
        x.bring(0, 5, 2, 80);
        x.bring(0, 5, 3, 60);
        x.bring(0, 4, 2, 50);
        sums(c, x, 5, 2, 300, 270, 0, 0, 0, 30, 270);
        sums(c, x, 5, 3, 7, 60, 0, 0, 0, -53, 60);
        sums(c, x, 4, 2, 0, 50, 0, 0, 0, -50, 50);
        sums(c, x, 2, 2, 0, 0, 0, 0, 0, 0, 0);
        x.custom(0);
        x.custom(1);
        x.custom(3);
        x.fleet();
        x.ship(0, 100);
        x.ship(0, 100);
        Checks.loadLot(x, 0, 0, 40);
        Checks.loadLot(x, 0, 1, 20);
        Checks.loadLot(x, 1, 1, 30);
        Checks.loadLot(x, 1, 3, 9);
        sums(c, x, 5, 2, 300, 270, 190, 90, 0, 30, 80);
        sums(c, x, 5, 3, 7, 60, 60, 9, 0, -53, 0);
        x.sail(0);
        x.sink(0);
        sums(c, x, 5, 2, 300, 270, 190, 90, 60, 30, 80);
        sums(c, x, 5, 3, 7, 60, 60, 9, 0, -53, 0);
        x.sink(1);
        sums(c, x, 5, 2, 300, 270, 190, 90, 90, 30, 80);
        sums(c, x, 5, 3, 7, 60, 60, 9, 9, -53, 0);
        sums(c, x, 4, 2, 0, 50, 0, 0, 0, -50, 50);

        StaplePort y = Checks.portWithMerchants(1);
        for (int i = 0; i < 150; i++) {
            y.bring(0, 7, 3, 500);
        }
        sums(c, y, 7, 3, 0, 75000, 0, 0, 0, -75000, 75000);
    }

    private static void sums(Checks c, StaplePort x, int shire, int sort, int... due) {
        for (int what = 0; what < due.length; what++) {
            c.due("sum(" + shire + ", " + sort + ", " + what + ")", x.sum(shire, sort, what), due[what]);
        }
    }

    private static void promise27NotAsTold(Checks c) {
        StaplePort x = new StaplePort();
        c.due("sum(8, 0, 0)", x.sum(8, 0, 0), -100000);
        c.due("sum(0, 4, 0)", x.sum(0, 4, 0), -100000);
        c.due("sum(0, 0, 7)", x.sum(0, 0, 7), -100000);
        c.due("sum(7, 3, 6)", x.sum(7, 3, 6), 0);
        for (int far : FAR) {
            for (int what = 0; what < 7; what++) {
                c.due("sum(" + far + ", 0, " + what + ")", x.sum(far, 0, what), -100000);
                c.due("sum(0, " + far + ", " + what + ")", x.sum(0, far, what), -100000);
            }
            c.due("sum(0, 0, " + far + ")", x.sum(0, 0, far), -100000);
        }
    }

    private static void promise28Count(Checks c) {
        StaplePort x = Checks.portWithMerchants(3);
        x.day(44);
        for (int i = 0; i < 4; i++) {
            x.adopt(0);
        }
        for (int i = 0; i < 5; i++) {
            x.licence(0, 0, 1);
        }
        for (int i = 0; i < 6; i++) {
            x.bring(0, 0, 0, 1);
        }
        for (int i = 0; i < 7; i++) {
            x.fleet();
        }
        for (int i = 0; i < 8; i++) {
            x.ship(0, 1);
        }
        x.feed(0, 0, 0, 0, 0);
        int[] due = {44, 3, 4, 5, 6, 7, 8, 20, 0, 0, 0};
        for (int what = 0; what < due.length; what++) {
            c.due("count(" + what + ")", x.count(what), due[what]);
        }
        c.due("count(11)", x.count(11), -1);
        for (int far : FAR) {
            c.due("count(" + far + ")", x.count(far), -1);
        }
    }

    private static void promise28CountOfBonds(Checks c) {
        StaplePort x = Checks.portWithMerchants(1);
        Checks.adoptText(x, "duty sort 0 is 10; duty sort 1 is 20; term 5; lost ends;");
        int[] sorts = {0, 1, 2, 0, 1};
        for (int sort : sorts) {
            x.bring(0, 0, sort, 3);
        }
        bonds(c, x, 0, 0, 0);
        for (int lot = 0; lot < 4; lot++) {
            x.custom(lot);
        }
        bonds(c, x, 3, 0, 0);
        x.day(3);
        x.custom(4);
        x.day(5);
        bonds(c, x, 4, 0, 0);
        x.day(6);
        bonds(c, x, 4, 3, 0);
        x.pay(0, 0, 29);
        bonds(c, x, 4, 3, 29);
        x.pay(0, 0, 29);
        bonds(c, x, 3, 2, 30);
        x.pay(1, 0, 7);
        x.day(9);
        bonds(c, x, 3, 3, 37);
        x.ship(x.fleet(), 10);
        Checks.loadLot(x, 0, 1, 1);
        Checks.loadLot(x, 0, 0, 1);
        x.sail(0);
        x.sink(0);
        bonds(c, x, 2, 2, 37);
    }

    private static void bonds(Checks c, StaplePort x, int open, int late, int paid) {
        c.due("count(8)", x.count(8), open);
        c.due("count(9)", x.count(9), late);
        c.due("count(10)", x.count(10), paid);
    }

    private SumTest() {
    }
}
