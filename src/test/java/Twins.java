import java.util.ArrayList;
import java.util.List;

/**
 * A refused call does nothing: of two ports that were made alike one gets it, and then both answer
 * whatever is asked and done alike. One object lives for 512 calls, so what is asked comes in pages,
 * each for a new pair of ports.
 */
final class Twins {
    private static final int MOST_CALLS = 512;

    private final Checks checks;
    private final Script before;
    private final List<Script> pages = new ArrayList<>();

    Twins(Checks checks, Script before) {
        this.checks = checks;
        this.before = before;
        cutIntoPages(questions());
        lawsGoOn();
        coinsGoOn();
        lotsGoOn();
        customsGoOn();
        ships();
        seaGoesOn();
        daysGoOn();
    }

    /** The call answers what is due, and nothing that comes later shows that it was made. */
    void refuse(String call, Script.Call refusal, long due) {
        for (int page = 0; page < pages.size(); page++) {
            StaplePort plain = before.port();
            StaplePort asked = before.port();
            checks.due(call, refusal.on(asked), due);
            Script later = pages.get(page);
            for (int i = 0; i < later.length(); i++) {
                checks.due("page " + page + ", call " + i + " behind " + call,
                        later.get(i).on(asked), later.get(i).on(plain));
            }
        }
    }

    private int counted(int what) {
        return before.port().count(what);
    }

    private int room() {
        return MOST_CALLS - before.length() - 1;
    }

    private void cutIntoPages(Script all) {
        for (int from = 0; from < all.length(); from += room()) {
            addPage(all, from);
        }
    }

    private void addPage(Script all, int from) {
        Script page = new Script();
        for (int i = from; i < all.length() && page.length() < room(); i++) {
            page.add(all.get(i));
        }
        pages.add(page);
    }

    /** All that can be asked, of each thing that is there and of the one that would come next. */
    private Script questions() {
        Script all = new Script();
        int today = counted(0);
        all.times(11, what -> x -> x.count(what)).add(x -> x.fault());
        all.times(today / 5 + 2, i -> x -> x.force(5 * i));
        all.times(counted(3) + 1, licence -> x -> x.left(licence));
        for (int i = 0; i <= counted(4); i++) {
            int lot = i;
            all.times(15, what -> x -> x.lot(lot, what)).times(2, which -> x -> x.half(lot, which));
            all.add(x -> x.over(lot));
        }
        for (int i = 0; i <= counted(5); i++) {
            int fleet = i;
            all.times(counted(1) + 1, merchant -> x -> x.part(fleet, merchant));
        }
        for (int i = 0; i <= counted(6); i++) {
            int ship = i;
            all.times(5, what -> x -> x.shipOf(ship, what));
        }
        all.times(8 * 4 * 7, i -> x -> x.sum(i / 28, i / 7 % 4, i % 7));
        return all;
    }

    // What can't be asked shows in what is done: the tape's bytes, the merchants' men, the rates.

    private void lawsGoOn() {
        int tape = counted(7);
        int today = counted(0);
        int lots = counted(4);
        Script read = new Script().add(x -> x.adopt(tape)).add(x -> x.fault()).add(x -> x.force(today));
        read.merchants(1).add(x -> x.bring(0, 0, 3, 1)).add(x -> x.bring(0, 0, 0, 1));
        read.times(2, i -> x -> x.custom(lots + i)).times(2, i -> x -> x.lot(lots + i, 9));
        addPage(read, 0);
        Script undo = new Script();
        for (int i = counted(2); i >= 0; i--) {
            int statute = i;
            undo.add(x -> Checks.bit(x.undo(statute))).add(x -> x.force(today)).add(x -> x.over(0));
        }
        addPage(undo, 0);
        addPage(new Script().adopt("term 5; lost ends;").add(x -> x.fault()).add(x -> x.force(today)), 0);
    }

    private void coinsGoOn() {
        Script pay = new Script();
        for (int i = 0; i < counted(4); i++) {
            int lot = i;
            pay.times(8, k -> x -> k % 2 == 0 ? x.pay(lot, k / 2, 7) : x.lot(lot, 10));
        }
        addPage(pay, 0);
    }

    private void lotsGoOn() {
        Script bring = new Script();
        bring.times(4 * counted(1), i -> x -> x.bring(i / 4, 7, i % 4, 5));
        bring.times(counted(3), licence -> x -> x.left(licence));
        addPage(bring, 0);
    }

    private void customsGoOn() {
        Script custom = new Script();
        for (int i = counted(4); i >= 0; i--) {
            int lot = i;
            custom.add(x -> x.custom(lot)).add(x -> x.lot(lot, 9)).add(x -> x.half(lot, 1));
        }
        addPage(custom, 0);
    }

    private void ships() {
        Script load = new Script();
        for (int lot = 0; lot <= Math.min(12, counted(4)); lot++) {
            for (int ship = 0; ship <= Math.min(5, counted(6)); ship++) {
                load.load(ship, lot, 1);
            }
        }
        addPage(load, 0);
        Script more = new Script();
        more.times(counted(5) + 1, fleet -> x -> x.ship(fleet, 3)).add(x -> x.fleet()).add(x -> x.count(6));
        addPage(more, 0);
    }

    private void seaGoesOn() {
        Script sea = new Script();
        for (int i = counted(5) - 1; i >= 0; i--) {
            int fleet = i;
            sea.add(x -> x.sail(fleet));
        }
        sea.times(counted(6) / 2, i -> x -> x.sink(2 * i + 1)).add(x -> x.count(8));
        for (int i = counted(5) - 1; i >= 0; i--) {
            int fleet = i;
            sea.add(x -> x.sell(fleet, 101)).times(counted(1), merchant -> x -> x.part(fleet, merchant));
        }
        addPage(sea, 0);
    }

    private void daysGoOn() {
        int today = counted(0);
        int lots = counted(4);
        Script days = new Script().day(today + 1).add(x -> x.count(9)).merchants(1);
        days.add(x -> x.grow(0, 0, 1)).add(x -> x.licence(0, 0, 1)).add(x -> x.bring(0, 0, 0, 1));
        days.add(x -> x.lot(lots, 4)).add(x -> x.feed(1, 2, 3, 4, 5)).day(3000).add(x -> x.count(9));
        addPage(days, 0);
    }
}
