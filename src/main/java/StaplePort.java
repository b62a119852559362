import java.util.ArrayList;

/** A staple port: see README.md for its use and ../shared/DOC.md for what it promises. */
public final class StaplePort {
    public static final int NONE = -1;

    private static final int LAST_DAY = 3000;
    private static final int MEN = 3;
    private static final int SHIRES = 8;
    private static final int SORTS = 4;
    private static final int KINDS = 4;
    private static final int TAPE_ROOM = 600;
    private static final int FED_BYTES = 20;

    private static final int MOST_MERCHANTS = 20;
    private static final int MOST_STATUTES = 20;
    private static final int MOST_LICENCES = 40;
    private static final int MOST_LOTS = 150;
    private static final int MOST_FLEETS = 20;
    private static final int MOST_SHIPS = 40;
    private static final int MOST_LOADINGS = 200;
    private static final int MOST_STATEMENTS = 16;
    private static final int MOST_CONDS = 3;
    private static final int MOST_DIGITS = 3;

    private static final int MOST_GROWN = 1000;
    private static final int MOST_SACKS = 500;
    private static final int MOST_RATE = 1000;
    private static final int MOST_PAID = 100000;
    private static final int MOST_PRICE = 1000000;

    private static final int BOND_NONE = 0;
    private static final int BOND_OPEN = 1;
    private static final int BOND_PAID = 2;
    private static final int BOND_LOST = 3;

    private static final int NO_SUM = -100000;

    private int today;
    private final int[] men = new int[MOST_MERCHANTS];
    private int merchants;
    private final int[] grown = new int[SHIRES * SORTS];
    private final byte[] tape = new byte[TAPE_ROOM];
    private int tapeLength;
    private int faultPlace = NONE;
    private final ArrayList<Statute> statutes = new ArrayList<>();
    private final ArrayList<Licence> licences = new ArrayList<>();
    private final ArrayList<Lot> lots = new ArrayList<>();
    private final int[] rateUpper = new int[KINDS];
    private final int[] rateLower = new int[KINDS];
    private final ArrayList<Fleet> fleets = new ArrayList<>();
    private final ArrayList<Ship> ships = new ArrayList<>();
    private int loadings;

    public StaplePort() {
        // The port's own coin is a kind like the others, whose rate never changes.
        rateUpper[0] = 1;
        rateLower[0] = 1;
    }

    // ---- days, merchants, what is grown

    public boolean day(int d) {
        if (d <= today || d > LAST_DAY) {
            return false;
        }
        today = d;
        return true;
    }

    public int merchant(int man) {
        if (!within(man, 0, MEN - 1) || merchants >= MOST_MERCHANTS) {
            return NONE;
        }
        men[merchants] = man;
        merchants++;
        return merchants - 1;
    }

    public int grow(int shire, int sort, int sacks) {
        if (!isShire(shire) || !isSort(sort) || !within(sacks, 0, MOST_GROWN)) {
            return NONE;
        }
        grown[shire * SORTS + sort] += sacks;
        return grown[shire * SORTS + sort];
    }

    // ---- statutes

    public int feed(int a, int b, int c, int d, int e) {
        if (tapeLength > TAPE_ROOM - FED_BYTES) {
            return NONE;
        }
        putOnTape(a);
        putOnTape(b);
        putOnTape(c);
        putOnTape(d);
        putOnTape(e);
        return tapeLength;
    }

    public int adopt(int n) {
        if (n < 0 || n > tapeLength) {
            return -2;
        }
        if (statutes.size() >= MOST_STATUTES) {
            return -3;
        }
        Statute read = new Statute(today);
        Reader reader = new Reader(tape, n);
        boolean sound = reader.readStatute(read);
        tapeLength = 0;
        if (!sound) {
            faultPlace = reader.start;
            return NONE;
        }
        faultPlace = NONE;
        statutes.add(read);
        return statutes.size() - 1;
    }

    public int fault() {
        return faultPlace;
    }

    public boolean undo(int statute) {
        if (!within(statute, 0, statutes.size() - 1)) {
            return false;
        }
        Statute found = statutes.get(statute);
        if (found.undone) {
            return false;
        }
        found.undone = true;
        return true;
    }

    public int force(int day) {
        return within(day, 0, LAST_DAY) ? numberInForce(day) : NONE;
    }

    // ---- licences and lots

    public int licence(int merchant, int sort, int sacks) {
        if (!isMerchant(merchant) || !isSort(sort) || !within(sacks, 1, MOST_SACKS)
                || licences.size() >= MOST_LICENCES) {
            return NONE;
        }
        licences.add(new Licence(merchant, sort, sacks));
        return licences.size() - 1;
    }

    public int left(int licence) {
        return within(licence, 0, licences.size() - 1) ? licences.get(licence).unused : NONE;
    }

    public int bring(int merchant, int shire, int sort, int sacks) {
        if (!isMerchant(merchant) || !isShire(shire) || !isSort(sort) || !within(sacks, 1, MOST_SACKS)) {
            return -2;
        }
        Statute law = inForce(today);
        boolean forbidden = law != null && law.forbids(sort, men[merchant], shire);
        if (forbidden && licensedSacks(merchant, sort) < sacks) {
            return -3;
        }
        if (lots.size() >= MOST_LOTS) {
            return -4;
        }
        if (forbidden) {
            useLicences(merchant, sort, sacks);
        }
        Lot brought = new Lot(merchant, shire, sort, sacks, today);
        brought.free = forbidden;
        lots.add(brought);
        return lots.size() - 1;
    }

    public int custom(int lot) {
        Lot found = lotAt(lot);
        if (found == null || found.isCustomed()) {
            return NONE;
        }
        Statute law = inForce(today);
        found.customedOn = today;
        found.duty = dutyBy(law, found);
        if (law != null && found.duty > 0) {
            found.bond = BOND_OPEN;
            found.due = today + law.term;
        }
        return found.duty;
    }

    public int half(int lot, int which) {
        Lot found = lotAt(lot);
        if (found == null || !found.isCustomed() || !within(which, 0, 1)) {
            return NONE;
        }
        return which == 0 ? firstHalf(lot) : secondHalf(lot);
    }

    public boolean rate(int kind, int upper, int lower) {
        if (!within(kind, 1, KINDS - 1) || !within(upper, 1, MOST_RATE) || !within(lower, 1, MOST_RATE)) {
            return false;
        }
        rateUpper[kind] = upper;
        rateLower[kind] = lower;
        return true;
    }

    public int pay(int lot, int kind, int coins) {
        Lot found = lotAt(lot);
        if (found == null || found.bond != BOND_OPEN || !within(kind, 0, KINDS - 1)
                || !within(coins, 1, MOST_PAID)) {
            return NONE;
        }
        int paid = found.paid + worthOf(kind, coins);
        if (paid < found.duty) {
            found.paid = paid;
            return 0;
        }
        found.paid = found.duty;
        found.bond = BOND_PAID;
        return paid - found.duty;
    }

    public int lot(int lot, int what) {
        Lot found = lotAt(lot);
        return found == null ? NONE : found.tell(what, today);
    }

    public int over(int lot) {
        Lot found = lotAt(lot);
        if (found == null || !found.isCustomed()) {
            return 0;
        }
        return dutyBy(inForce(found.customedOn), found) - found.duty;
    }

    // ---- fleets and ships

    public int fleet() {
        if (fleets.size() >= MOST_FLEETS) {
            return NONE;
        }
        fleets.add(new Fleet(fleets.size()));
        return fleets.size() - 1;
    }

    public int ship(int fleet, int room) {
        Fleet found = fleetAt(fleet);
        if (found == null || found.sailed || !within(room, 1, MOST_SACKS) || ships.size() >= MOST_SHIPS) {
            return NONE;
        }
        Ship built = new Ship(found, room);
        found.members.add(built);
        ships.add(built);
        return ships.size() - 1;
    }

    public int load(int ship, int first, int second, int sacks) {
        Ship found = shipAt(ship);
        if (found == null || !within(sacks, 1, MOST_SACKS)) {
            return -2;
        }
        Lot cargo = lotOfHalves(first, second);
        if (cargo == null) {
            return -3;
        }
        if (found.fleet.sailed) {
            return -4;
        }
        if (sacks > cargo.sacks - cargo.loaded) {
            return -5;
        }
        if (sacks > found.room - found.sacks) {
            return -6;
        }
        if (loadings >= MOST_LOADINGS) {
            return -7;
        }
        loadings++;
        found.take(cargo, sacks);
        return cargo.sacks - cargo.loaded;
    }

    public int sail(int fleet) {
        Fleet found = fleetAt(fleet);
        if (found == null || found.sailed) {
            return NONE;
        }
        found.sailed = true;
        return found.sacksAboard();
    }

    public int sink(int ship) {
        Ship found = shipAt(ship);
        if (found == null || !found.fleet.sailed || found.lost || found.fleet.sold) {
            return NONE;
        }
        Statute law = inForce(today);
        return found.goDown(law != null && law.lostEnds);
    }

    public int sell(int fleet, int coins) {
        Fleet found = fleetAt(fleet);
        if (found == null || !within(coins, 0, MOST_PRICE) || !found.sailed || found.sold) {
            return NONE;
        }
        found.sold = true;
        return found.divide(coins);
    }

    public int part(int fleet, int merchant) {
        Fleet found = fleetAt(fleet);
        return found == null || !isMerchant(merchant) ? NONE : found.parts[merchant];
    }

    public int shipOf(int ship, int what) {
        Ship found = shipAt(ship);
        return found == null ? NONE : found.tell(what);
    }

    // ---- sums

    public int sum(int shire, int sort, int what) {
        if (!isShire(shire) || !isSort(sort)) {
            return NO_SUM;
        }
        int harvest = grown[shire * SORTS + sort];
        switch (what) {
            case 0:
                return harvest;
            case 1:
            case 2:
            case 3:
            case 4:
                return sacksOfLots(shire, sort, what);
            case 5:
                return harvest - sacksOfLots(shire, sort, 1);
            case 6:
                return sacksOfLots(shire, sort, 1) - sacksOfLots(shire, sort, 2);
            default:
                return NO_SUM;
        }
    }

    public int count(int what) {
        switch (what) {
            case 0:
                return today;
            case 1:
                return merchants;
            case 2:
                return statutes.size();
            case 3:
                return licences.size();
            case 4:
                return lots.size();
            case 5:
                return fleets.size();
            case 6:
                return ships.size();
            case 7:
                return tapeLength;
            case 8:
                return openBonds();
            case 9:
                return lateBonds();
            case 10:
                return paidInAll();
            default:
                return NONE;
        }
    }

    // ---- what the calls share

    private static boolean within(int number, int least, int most) {
        return number >= least && number <= most;
    }

    private static boolean isShire(int shire) {
        return within(shire, 0, SHIRES - 1);
    }

    private static boolean isSort(int sort) {
        return within(sort, 0, SORTS - 1);
    }

    private boolean isMerchant(int merchant) {
        return within(merchant, 0, merchants - 1);
    }

    private Lot lotAt(int lot) {
        return within(lot, 0, lots.size() - 1) ? lots.get(lot) : null;
    }

    private Fleet fleetAt(int fleet) {
        return within(fleet, 0, fleets.size() - 1) ? fleets.get(fleet) : null;
    }

    private Ship shipAt(int ship) {
        return within(ship, 0, ships.size() - 1) ? ships.get(ship) : null;
    }

    private void putOnTape(int number) {
        for (int shift = 24; shift >= 0 && tapeLength < TAPE_ROOM; shift -= 8) {
            tape[tapeLength] = (byte) (number >> shift);
            tapeLength++;
        }
    }

    private int numberInForce(int day) {
        // Days never go back, so the latest one ADOPTED is the one with the highest number.
        for (int i = statutes.size() - 1; i >= 0; i--) {
            Statute statute = statutes.get(i);
            if (!statute.undone && statute.day <= day) {
                return i;
            }
        }
        return NONE;
    }

    private Statute inForce(int day) {
        int number = numberInForce(day);
        return number == NONE ? null : statutes.get(number);
    }

    private int dutyBy(Statute law, Lot lot) {
        if (law == null || lot.free) {
            return 0;
        }
        return lot.sacks * law.dutyOfSack(lot.sort, men[lot.merchant], lot.shire);
    }

    private int licensedSacks(int merchant, int sort) {
        int sacks = 0;
        for (int i = 0; i < licences.size(); i++) {
            Licence licence = licences.get(i);
            if (licence.isFor(merchant, sort)) {
                sacks += licence.unused;
            }
        }
        return sacks;
    }

    private void useLicences(int merchant, int sort, int sacks) {
        int wanted = sacks;
        for (int i = 0; i < licences.size(); i++) {
            Licence licence = licences.get(i);
            if (licence.isFor(merchant, sort)) {
                int used = Math.min(wanted, licence.unused);
                licence.unused -= used;
                wanted -= used;
            }
        }
    }

    private static int firstHalf(int lot) {
        return 1000 * lot + (37 * lot + 11) % 997;
    }

    private static int secondHalf(int lot) {
        return 1000 * lot + (53 * lot + 29) % 997;
    }

    private Lot lotOfHalves(int first, int second) {
        // What stands behind the thousands is below 997, so they alone tell the lot.
        int number = first / 1000;
        Lot found = lotAt(number);
        if (found == null || !found.isCustomed()) {
            return null;
        }
        int one = firstHalf(number);
        int other = secondHalf(number);
        boolean fit = first == one && second == other || first == other && second == one;
        return fit ? found : null;
    }

    private int worthOf(int kind, int coins) {
        int lower = rateLower[kind];
        return lower == 0 ? 0 : coins * rateUpper[kind] / lower;
    }

    /** What: 1 brought, 2 CUSTOMED, 3 loaded, 4 LOST, as sum() has them. */
    private int sacksOfLots(int shire, int sort, int what) {
        int sacks = 0;
        for (int i = 0; i < lots.size(); i++) {
            Lot lot = lots.get(i);
            if (lot.shire == shire && lot.sort == sort) {
                sacks += lot.sacksThatPassed(what);
            }
        }
        return sacks;
    }

    private int openBonds() {
        int open = 0;
        for (int i = 0; i < lots.size(); i++) {
            if (lots.get(i).bond == BOND_OPEN) {
                open++;
            }
        }
        return open;
    }

    private int lateBonds() {
        int late = 0;
        for (int i = 0; i < lots.size(); i++) {
            if (lots.get(i).isLate(today)) {
                late++;
            }
        }
        return late;
    }

    private int paidInAll() {
        int paid = 0;
        for (int i = 0; i < lots.size(); i++) {
            paid += lots.get(i).paid;
        }
        return paid;
    }

    // ---- the classes inside

    /** A "duty" or a "forbid": what its CONDS ask of a sort, a man and a shire. */
    private static final class Clause {
        static final int SORT = 0;
        static final int MAN = 1;
        static final int SHIRE = 2;
        private static final int ANY = -1;
        private static final int NEVER = -2;

        int number;
        private final int[] asked = {ANY, ANY, ANY};

        void ask(int mark, int wanted) {
            if (within(mark, SORT, SHIRE)) {
                // Two CONDS on one mark with different numbers can't both hold.
                boolean agrees = asked[mark] == ANY || asked[mark] == wanted;
                asked[mark] = agrees ? wanted : NEVER;
            }
        }

        boolean holds(int sort, int man, int shire) {
            return fits(SORT, sort) && fits(MAN, man) && fits(SHIRE, shire);
        }

        private boolean fits(int mark, int has) {
            return asked[mark] == ANY || asked[mark] == has;
        }
    }

    private static final class Statute {
        final int day;
        boolean undone;
        int term;
        boolean lostEnds;
        final ArrayList<Clause> duties = new ArrayList<>();
        final ArrayList<Clause> bans = new ArrayList<>();

        Statute(int day) {
            this.day = day;
        }

        int dutyOfSack(int sort, int man, int shire) {
            for (int i = 0; i < duties.size(); i++) {
                Clause duty = duties.get(i);
                if (duty.holds(sort, man, shire)) {
                    return duty.number;
                }
            }
            return 0;
        }

        boolean forbids(int sort, int man, int shire) {
            for (int i = 0; i < bans.size(); i++) {
                if (bans.get(i).holds(sort, man, shire)) {
                    return true;
                }
            }
            return false;
        }
    }

    /**
     * Reads a statute token by token. It stands on the first token that it has not taken, and at
     * the text's length behind the last one: wherever it stops, start is the FAULT's place.
     */
    private static final class Reader {
        private static final int NO_BYTE = 256;

        private final byte[] text;
        private final int length;
        int start;
        private int end;

        Reader(byte[] text, int length) {
            this.text = text;
            this.length = Math.min(length, text.length);
        }

        boolean readStatute(Statute into) {
            goToNextToken();
            for (int i = 0; i < MOST_STATEMENTS && start < length; i++) {
                boolean sound = took("duty") ? readDuty(into)
                        : took("forbid") ? readForbid(into)
                        : took("term") ? readTerm(into)
                        : took("lost") && readLost(into);
                if (!sound) {
                    return false;
                }
            }
            return start >= length;
        }

        private boolean readDuty(Statute into) {
            Clause duty = new Clause();
            if (!readConds(duty) || !took("is")) {
                return false;
            }
            duty.number = takeNumber();
            into.duties.add(duty);
            return duty.number != NONE && took(";");
        }

        private boolean readForbid(Statute into) {
            Clause ban = new Clause();
            into.bans.add(ban);
            return readConds(ban) && took(";");
        }

        private boolean readTerm(Statute into) {
            into.term = takeNumber();
            return into.term != NONE && took(";");
        }

        private boolean readLost(Statute into) {
            into.lostEnds = took("ends");
            return (into.lostEnds || took("stands")) && took(";");
        }

        private boolean readConds(Clause into) {
            for (int i = 0; i < MOST_CONDS; i++) {
                int mark = took("sort") ? Clause.SORT
                        : took("man") ? Clause.MAN
                        : took("shire") ? Clause.SHIRE
                        : NONE;
                if (mark == NONE) {
                    return true;
                }
                int wanted = takeNumber();
                if (wanted == NONE) {
                    return false;
                }
                into.ask(mark, wanted);
            }
            return true;
        }

        /** Whether the token is this one; then it is taken. */
        private boolean took(String token) {
            if (end - start != token.length()) {
                return false;
            }
            for (int i = 0; i < token.length(); i++) {
                if (byteAt(start + i) != token.charAt(i)) {
                    return false;
                }
            }
            goToNextToken();
            return true;
        }

        /** The NUMBER that the token is; then it is taken. NONE: it is no NUMBER. */
        private int takeNumber() {
            if (!isDigit(byteAt(start)) || end - start > MOST_DIGITS) {
                return NONE;
            }
            int number = 0;
            for (int i = start; i < end; i++) {
                number = 10 * number + byteAt(i) - '0';
            }
            goToNextToken();
            return number;
        }

        private void goToNextToken() {
            start = end;
            while (start < length && isBlank(byteAt(start))) {
                start++;
            }
            end = Math.min(start + 1, length);
            int first = byteAt(start);
            while (end < length && isLetter(first) && isLetter(byteAt(end))) {
                end++;
            }
            while (end < length && isDigit(first) && isDigit(byteAt(end))) {
                end++;
            }
        }

        private int byteAt(int place) {
            return place >= 0 && place < length ? text[place] : NO_BYTE;
        }

        private static boolean isBlank(int b) {
            return b == 32 || b == 10;
        }

        private static boolean isLetter(int b) {
            return b >= 'a' && b <= 'z';
        }

        private static boolean isDigit(int b) {
            return b >= '0' && b <= '9';
        }
    }

    private static final class Licence {
        private final int merchant;
        private final int sort;
        int unused;

        Licence(int merchant, int sort, int sacks) {
            this.merchant = merchant;
            this.sort = sort;
            this.unused = sacks;
        }

        boolean isFor(int ofMerchant, int ofSort) {
            return merchant == ofMerchant && sort == ofSort;
        }
    }

    private static final class Lot {
        final int merchant;
        final int shire;
        final int sort;
        final int sacks;
        private final int broughtOn;
        boolean free;
        int customedOn = NONE;
        int duty;
        int bond = BOND_NONE;
        int due = NONE;
        int paid;
        int loaded;
        int lost;

        Lot(int merchant, int shire, int sort, int sacks, int broughtOn) {
            this.merchant = merchant;
            this.shire = shire;
            this.sort = sort;
            this.sacks = sacks;
            this.broughtOn = broughtOn;
        }

        boolean isCustomed() {
            return customedOn != NONE;
        }

        boolean isLate(int today) {
            return bond == BOND_OPEN && today > due;
        }

        int sacksThatPassed(int what) {
            switch (what) {
                case 1:
                    return sacks;
                case 2:
                    return isCustomed() ? sacks : 0;
                case 3:
                    return loaded;
                case 4:
                    return lost;
                default:
                    return 0;
            }
        }

        int tell(int what, int today) {
            switch (what) {
                case 0:
                    return merchant;
                case 1:
                    return shire;
                case 2:
                    return sort;
                case 3:
                    return sacks;
                case 4:
                    return broughtOn;
                case 5:
                    return free ? 1 : 0;
                case 6:
                    return isCustomed() ? 1 : 0;
                case 7:
                    return duty;
                case 8:
                    return bond;
                case 9:
                    return due;
                case 10:
                    return paid;
                case 11:
                    return isLate(today) ? 1 : 0;
                case 12:
                    return loaded;
                case 13:
                    return lost;
                case 14:
                    return customedOn;
                default:
                    return NONE;
            }
        }
    }

    private static final class Loading {
        final Lot from;
        final int sacks;

        Loading(Lot from, int sacks) {
            this.from = from;
            this.sacks = sacks;
        }
    }

    private static final class Ship {
        final Fleet fleet;
        final int room;
        int sacks;
        boolean lost;
        private final ArrayList<Loading> cargo = new ArrayList<>();

        Ship(Fleet fleet, int room) {
            this.fleet = fleet;
            this.room = room;
        }

        void take(Lot lot, int taken) {
            cargo.add(new Loading(lot, taken));
            sacks += taken;
            lot.loaded += taken;
        }

        /** How many BONDS end with it; none do unless the law ends them. */
        int goDown(boolean lawEndsBonds) {
            lost = true;
            int ended = 0;
            for (int i = 0; i < cargo.size(); i++) {
                Loading loading = cargo.get(i);
                Lot lot = loading.from;
                lot.lost += loading.sacks;
                if (lawEndsBonds && lot.bond == BOND_OPEN) {
                    lot.bond = BOND_LOST;
                    ended++;
                }
            }
            return ended;
        }

        void addWorth(int[] worth) {
            for (int i = 0; i < cargo.size(); i++) {
                Loading loading = cargo.get(i);
                Lot lot = loading.from;
                if (within(lot.merchant, 0, worth.length - 1)) {
                    worth[lot.merchant] += loading.sacks * (SORTS - lot.sort);
                }
            }
        }

        int tell(int what) {
            switch (what) {
                case 0:
                    return fleet.number;
                case 1:
                    return room;
                case 2:
                    return sacks;
                case 3:
                    return lost ? 1 : 0;
                case 4:
                    return fleet.sailed ? 1 : 0;
                default:
                    return NONE;
            }
        }
    }

    private static final class Fleet {
        final int number;
        boolean sailed;
        boolean sold;
        final ArrayList<Ship> members = new ArrayList<>();
        final int[] parts = new int[MOST_MERCHANTS];

        Fleet(int number) {
            this.number = number;
        }

        int sacksAboard() {
            int sacks = 0;
            for (int i = 0; i < members.size(); i++) {
                sacks += members.get(i).sacks;
            }
            return sacks;
        }

        /** Parts the coins by WORTH: all that is parted. */
        int divide(int coins) {
            int[] worth = worthOfMerchants();
            long all = 0;
            for (int m = 0; m < MOST_MERCHANTS; m++) {
                all += worth[m];
            }
            if (all <= 0) {
                return 0;
            }
            long[] rests = new long[MOST_MERCHANTS];
            int over = coins;
            for (int m = 0; m < MOST_MERCHANTS; m++) {
                long share = (long) coins * worth[m];
                parts[m] = (int) (share / all);
                rests[m] = share % all;
                over -= parts[m];
            }
            handOut(over, rests);
            return coins;
        }

        private int[] worthOfMerchants() {
            int[] worth = new int[MOST_MERCHANTS];
            for (int i = 0; i < members.size(); i++) {
                Ship ship = members.get(i);
                if (!ship.lost) {
                    ship.addWorth(worth);
                }
            }
            return worth;
        }

        // The rests add up to the coins over times all WORTH and each is below all WORTH: so there
        // are more rests above 0 than coins over, and no merchant gets two.
        private void handOut(int over, long[] rests) {
            for (int given = 0; given < over && given < MOST_MERCHANTS; given++) {
                int m = greatest(rests);
                parts[m]++;
                // Below every rest, so that the next coin goes to another.
                rests[m] = -1;
            }
        }

        private static int greatest(long[] rests) {
            int best = 0;
            for (int m = 1; m < rests.length; m++) {
                if (rests[m] > rests[best]) {
                    best = m;
                }
            }
            return best;
        }
    }
}
