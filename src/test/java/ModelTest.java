import java.util.Random;

/** Runs of drawn calls, the same ones each time, on StaplePort and on PortModel: all answers are alike. */
public final class ModelTest {
    private static final int RUNS = 1500;
    private static final int MOST_CALLS = 512;
    private static final int[] ODD = {Integer.MIN_VALUE, -1001, -1, 0, 1, 2, 3, 4, 5, 7, 8, 15, 20, 40, 150, 199,
        200, 500, 501, 600, 1000, 1001, 3000, 3001, 100000, 100001, 1000000, 1000001, Integer.MAX_VALUE};
    private static final String[] WORDS = {"duty", "forbid", "term", "lost", "ends", "stands", "is", ";", "sort",
        "man", "shire", "0", "1", "12", "999", "1000", "!", "dut", "", "\n"};
    /** How often each call is drawn, in the order of the document's face. */
    private static final int[] OFTEN = {3, 3, 2, 1, 4, 1, 1, 1, 4, 1, 16, 14, 1, 2, 10, 8, 3, 2, 4, 16, 2, 2, 2, 4,
        2, 4, 4};

    private final Checks checks;
    private final int run;
    private final Random draw;
    private final StaplePort port = new StaplePort();
    private final PortModel model = new PortModel();
    private final int[] often = OFTEN.clone();
    private final boolean careful;
    private int calls;

    private ModelTest(Checks checks, int run) {
        this.checks = checks;
        this.run = run;
        this.draw = new Random(run);
        this.careful = run % 3 != 0;
        // Each run has calls of its own that it likes, so that some come to every limit.
        for (int i = 0; i < often.length; i++) {
            often[i] *= new int[] {1, 3, 12}[draw.nextInt(3)];
        }
    }

    public static void main(String[] args) {
        Checks checks = new Checks("ModelTest");
        for (int run = 0; run < RUNS; run++) {
            new ModelTest(checks, run).play();
        }
        checks.end();
    }

    private void play() {
        for (int i = 0; i < 3; i++) {
            call(1);
        }
        // A call of the drawing may be made of up to 31 of the port's.
        while (calls < MOST_CALLS - 40) {
            call(drawnCall());
        }
    }

    private int drawnCall() {
        int all = 0;
        for (int weight : often) {
            all += weight;
        }
        int at = draw.nextInt(all);
        int call = 0;
        while (at >= often[call]) {
            at -= often[call];
            call++;
        }
        return call;
    }

    private void same(String call, long got, long want) {
        calls++;
        if (got != want) {
            checks.due("run " + run + ", call " + calls + ": " + call, got, want);
        } else {
            checks.due(call, got, want);
        }
    }

    private void same(String call, boolean got, long want) {
        same(call, got ? 1 : 0, want);
    }

    /** Mostly a number from least to most, now and then an odd one. */
    private int from(int least, int most) {
        int kind = draw.nextInt(careful ? 60 : 12);
        if (kind == 0) {
            return ODD[draw.nextInt(ODD.length)];
        }
        if (kind == 1) {
            return draw.nextBoolean() ? most + 1 : least - 1;
        }
        if (kind == 2) {
            return draw.nextBoolean() ? most : least;
        }
        return least + draw.nextInt(Math.max(1, most - least + 1));
    }

    private int sacks() {
        return draw.nextInt(3) == 0 ? from(1, 500) : from(1, 25);
    }

    private int oneOf(int count) {
        return from(0, count - 1);
    }

    private void call(int call) {
        if (call < 8) {
            lawCall(call);
        } else if (call < 17) {
            lotCall(call);
        } else {
            fleetCall(call);
        }
    }

    private void lawCall(int call) {
        int a = from(0, 3);
        switch (call) {
            case 0 -> {
                int d = from(model.count(0), model.count(0) + 40);
                same("day " + d, port.day(d), model.day(d));
            }
            case 1 -> {
                int man = from(0, 2);
                same("merchant " + man, port.merchant(man), model.merchant(man));
            }
            case 2 -> {
                int shire = from(0, 7);
                int much = from(0, 1000);
                same("grow", port.grow(shire, a, much), model.grow(shire, a, much));
            }
            case 3 -> feed(drawnText());
            case 4 -> adopt();
            case 5 -> same("fault", port.fault(), model.fault());
            case 6 -> {
                int statute = oneOf(model.count(2));
                same("undo " + statute, port.undo(statute), model.undo(statute));
            }
            default -> {
                int day = from(0, model.count(0) + 20);
                same("force " + day, port.force(day), model.force(day));
            }
        }
    }

    private void lotCall(int call) {
        int lot = oneOf(model.count(4));
        int sort = from(0, 3);
        int sacks = sacks();
        int merchant = oneOf(model.count(1));
        switch (call) {
            case 8 -> same("licence", port.licence(merchant, sort, sacks), model.licence(merchant, sort, sacks));
            case 9 -> {
                int licence = oneOf(model.count(3));
                same("left " + licence, port.left(licence), model.left(licence));
            }
            case 10 -> {
                int shire = from(0, 7);
                same("bring", port.bring(merchant, shire, sort, sacks), model.bring(merchant, shire, sort, sacks));
            }
            case 11 -> same("custom " + lot, port.custom(lot), model.custom(lot));
            case 12 -> {
                int which = from(0, 1);
                same("half " + lot + " " + which, port.half(lot, which), model.half(lot, which));
            }
            case 13 -> {
                int upper = from(1, 1000);
                int lower = from(1, draw.nextBoolean() ? 10 : 1000);
                same("rate", port.rate(sort, upper, lower), model.rate(sort, upper, lower));
            }
            case 14 -> {
                int coins = draw.nextInt(6) == 0 ? from(1, 100000) : from(1, 400);
                same("pay", port.pay(lot, sort, coins), model.pay(lot, sort, coins));
                same("paid on " + lot, port.lot(lot, 10), model.lot(lot, 10));
            }
            case 15 -> {
                int what = from(0, 14);
                same("lot " + lot + " " + what, port.lot(lot, what), model.lot(lot, what));
            }
            default -> same("over " + lot, port.over(lot), model.over(lot));
        }
    }

    private void fleetCall(int call) {
        int fleet = draw.nextInt(4) == 0 ? oneOf(model.count(5)) : model.count(5) - 1;
        int ship = draw.nextInt(3) == 0 ? oneOf(model.count(6)) : model.count(6) - 1;
        switch (call) {
            case 17 -> same("fleet", port.fleet(), model.fleet());
            case 18 -> {
                int room = draw.nextBoolean() ? from(1, 500) : from(1, 60);
                same("ship", port.ship(fleet, room), model.ship(fleet, room));
            }
            case 19 -> load(ship);
            case 20 -> same("sail " + fleet, port.sail(fleet), model.sail(fleet));
            case 21 -> same("sink " + ship, port.sink(ship), model.sink(ship));
            case 22 -> {
                int coins = draw.nextBoolean() ? from(0, 1000000) : from(0, 100);
                same("sell " + fleet, port.sell(fleet, coins), model.sell(fleet, coins));
            }
            case 23 -> {
                int merchant = oneOf(model.count(1));
                same("part " + fleet, port.part(fleet, merchant), model.part(fleet, merchant));
            }
            case 24 -> {
                int what = from(0, 4);
                same("shipOf " + ship + " " + what, port.shipOf(ship, what), model.shipOf(ship, what));
            }
            case 25 -> {
                int shire = from(0, 7);
                int sort = from(0, 3);
                int what = from(0, 6);
                same("sum", port.sum(shire, sort, what), model.sum(shire, sort, what));
            }
            default -> {
                int what = from(0, 10);
                same("count " + what, port.count(what), model.count(what));
            }
        }
    }

    private void load(int ship) {
        int lot = oneOf(model.count(4));
        int first = model.half(lot, draw.nextInt(2));
        int which = draw.nextInt(2);
        int second = model.half(lot, which);
        if (first == second && draw.nextInt(10) != 0) {
            second = model.half(lot, 1 - which);
        }
        if (draw.nextInt(20) == 0) {
            second += from(-1, 1);
        }
        int sacks = draw.nextInt(4) == 0 ? from(1, 500) : from(1, 6);
        same("load", port.load(ship, first, second, sacks), model.load(ship, first, second, sacks));
    }

    private void feed(String text) {
        StringBuilder padded = new StringBuilder(text);
        while (padded.length() % 20 != 0) {
            padded.append(' ');
        }
        for (int i = 0; i < padded.length() && i < 600; i += 20) {
            int[] n = new int[5];
            for (int k = 0; k < 5; k++) {
                n[k] = Checks.four(padded, i + 4 * k);
            }
            same("feed", port.feed(n[0], n[1], n[2], n[3], n[4]), model.feed(n));
        }
    }

    private void adopt() {
        String text = drawnText();
        feed(text);
        int n = draw.nextInt(5) == 0 ? from(0, model.count(7)) : Math.min(text.length(), 600);
        same("adopt " + n + " of '" + text + "'", port.adopt(n), model.adopt(n));
        same("fault of '" + text + "'", port.fault(), model.fault());
    }

    private String drawnText() {
        StringBuilder text = new StringBuilder();
        int statements = draw.nextInt(12) == 0 ? 13 + draw.nextInt(5) : draw.nextInt(6);
        for (int i = 0; i < statements; i++) {
            statement(text);
        }
        if (draw.nextInt(6) == 0) {
            int at = draw.nextInt(text.length() + 1);
            text.insert(at, WORDS[draw.nextInt(WORDS.length)]);
        }
        if (draw.nextInt(12) == 0 && text.length() > 0) {
            text.setCharAt(draw.nextInt(text.length()), (char) draw.nextInt(256));
        }
        return text.toString();
    }

    private void statement(StringBuilder text) {
        switch (draw.nextInt(7)) {
            case 0, 1, 2 -> {
                text.append("duty");
                conds(text);
                text.append(" is ").append(draw.nextInt(draw.nextBoolean() ? 1000 : 12));
            }
            case 3, 4 -> {
                text.append("forbid");
                conds(text);
            }
            case 5 -> text.append("term ").append(draw.nextInt(30));
            default -> text.append(draw.nextInt(3) == 0 ? "lost stands" : "lost ends");
        }
        text.append(draw.nextInt(8) == 0 ? " ; " : ";");
    }

    private void conds(StringBuilder text) {
        int conds = draw.nextInt(40) == 0 ? 4 : draw.nextInt(3);
        for (int i = 0; i < conds; i++) {
            switch (draw.nextInt(3)) {
                case 0 -> text.append(" sort ").append(draw.nextInt(4));
                case 1 -> text.append(" man ").append(draw.nextInt(3));
                default -> text.append(" shire ").append(draw.nextInt(8));
            }
        }
    }
}
