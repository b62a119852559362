import java.math.BigInteger;
import java.util.ArrayList;
import java.util.Comparator;
import java.util.HashMap;
import java.util.List;
import java.util.Map;
import java.util.regex.Matcher;
import java.util.regex.Pattern;

/**
 * The document once more, as plainly as the whole Java library lets it be said: little is kept but
 * what was done, and every answer is worked out from that. ModelTest holds StaplePort against it.
 */
final class PortModel {
    private record Statute(int day, String tokens, List<String> words) {
    }

    private record Brought(int merchant, int shire, int sort, int sacks, int day, boolean free) {
    }

    private record Customed(int day, int duty, int due) {
    }

    private record Licence(int merchant, int sort, int sacks) {
    }

    private record Vessel(int fleet, int room) {
    }

    private record Loading(int ship, int lot, int sacks) {
    }

    private static final String COND = "(cn){0,3}";
    private static final Pattern STATUTE =
            Pattern.compile("(d" + COND + "in;|f" + COND + ";|tn;|l[es];){0,16}");
    private static final Pattern TOKEN = Pattern.compile("[a-z]+|[0-9]+|[^ \\n]", Pattern.DOTALL);

    private int today;
    private final List<Integer> men = new ArrayList<>();
    private final List<int[]> harvests = new ArrayList<>();
    private String tape = "";
    private int fault = -1;
    private final List<Statute> statutes = new ArrayList<>();
    private final List<Integer> undone = new ArrayList<>();
    private final List<Licence> licences = new ArrayList<>();
    private final Map<Integer, Integer> used = new HashMap<>();
    private final List<Brought> lots = new ArrayList<>();
    private final Map<Integer, Customed> customed = new HashMap<>();
    private final Map<Integer, Integer> paid = new HashMap<>();
    private final List<Integer> ended = new ArrayList<>();
    private final Map<Integer, int[]> rates = new HashMap<>();
    private int fleets;
    private final List<Integer> sailed = new ArrayList<>();
    private final Map<Integer, Map<Integer, Integer>> sold = new HashMap<>();
    private final List<Vessel> ships = new ArrayList<>();
    private final List<Integer> lost = new ArrayList<>();
    private final List<Loading> loadings = new ArrayList<>();

    private static boolean in(int x, int least, int most) {
        return x >= least && x <= most;
    }

    int day(int d) {
        boolean done = d > today && d <= 3000;
        today = done ? d : today;
        return done ? 1 : 0;
    }

    int merchant(int man) {
        if (!in(man, 0, 2) || men.size() == 20) {
            return -1;
        }
        men.add(man);
        return men.size() - 1;
    }

    int grow(int shire, int sort, int sacks) {
        if (!in(shire, 0, 7) || !in(sort, 0, 3) || !in(sacks, 0, 1000)) {
            return -1;
        }
        harvests.add(new int[] {shire, sort, sacks});
        return sum(shire, sort, 0);
    }

    int feed(int... numbers) {
        if (tape.length() + 20 > 600) {
            return -1;
        }
        for (int number : numbers) {
            for (int i = 0; i < 4; i++) {
                tape += (char) (number >>> 24 - 8 * i & 255);
            }
        }
        return tape.length();
    }

    int adopt(int n) {
        if (!in(n, 0, tape.length())) {
            return -2;
        }
        if (statutes.size() == 20) {
            return -3;
        }
        String text = tape.substring(0, n);
        tape = "";
        List<String> words = new ArrayList<>();
        StringBuilder kinds = new StringBuilder();
        Matcher tokens = TOKEN.matcher(text);
        while (tokens.find()) {
            words.add(tokens.group());
            kinds.append(kind(tokens.group()));
            Matcher soFar = STATUTE.matcher(kinds);
            // A text goes on with these tokens if it is one, or if only its end kept it from being one.
            if (!soFar.matches() && !soFar.hitEnd()) {
                fault = tokens.start();
                return -1;
            }
        }
        fault = STATUTE.matcher(kinds).matches() ? -1 : n;
        if (fault != -1) {
            return -1;
        }
        statutes.add(new Statute(today, kinds.toString(), words));
        return statutes.size() - 1;
    }

    private static char kind(String token) {
        return switch (token) {
            case "duty" -> 'd';
            case "is" -> 'i';
            case "forbid" -> 'f';
            case "term" -> 't';
            case "lost" -> 'l';
            case "ends" -> 'e';
            case "stands" -> 's';
            case "sort", "man", "shire" -> 'c';
            case ";" -> ';';
            default -> token.matches("[0-9]{1,3}") ? 'n' : '?';
        };
    }

    int fault() {
        return fault;
    }

    int undo(int statute) {
        if (!in(statute, 0, statutes.size() - 1) || undone.contains(statute)) {
            return 0;
        }
        undone.add(statute);
        return 1;
    }

    int force(int day) {
        int found = -1;
        for (int i = 0; i < statutes.size() && in(day, 0, 3000); i++) {
            found = statutes.get(i).day() <= day && !undone.contains(i) ? i : found;
        }
        return found;
    }

    /** The statements of the statute in force on a day, each as its words. */
    private List<List<String>> statements(int day) {
        List<List<String>> all = new ArrayList<>();
        int number = force(day);
        List<String> at = new ArrayList<>();
        for (String word : number == -1 ? new ArrayList<String>() : statutes.get(number).words()) {
            if (word.equals(";")) {
                all.add(at);
                at = new ArrayList<>();
            } else {
                at.add(word);
            }
        }
        return all;
    }

    private boolean hold(List<String> statement, int merchant, int shire, int sort) {
        boolean hold = true;
        for (int i = 1; i + 1 < statement.size() && !statement.get(i).equals("is"); i += 2) {
            int has = switch (statement.get(i)) {
                case "sort" -> sort;
                case "man" -> men.get(merchant);
                default -> shire;
            };
            hold &= Integer.parseInt(statement.get(i + 1)) == has;
        }
        return hold;
    }

    private int dutyOn(int day, int lot) {
        Brought b = lots.get(lot);
        for (List<String> s : statements(day)) {
            if (s.get(0).equals("duty") && hold(s, b.merchant(), b.shire(), b.sort())) {
                return b.free() ? 0 : b.sacks() * Integer.parseInt(s.get(s.size() - 1));
            }
        }
        return 0;
    }

    private String last(String word, String without) {
        String said = without;
        for (List<String> s : statements(today)) {
            said = s.get(0).equals(word) ? s.get(1) : said;
        }
        return said;
    }

    int licence(int merchant, int sort, int sacks) {
        if (!in(merchant, 0, men.size() - 1) || !in(sort, 0, 3) || !in(sacks, 1, 500) || licences.size() == 40) {
            return -1;
        }
        licences.add(new Licence(merchant, sort, sacks));
        return licences.size() - 1;
    }

    int left(int licence) {
        return !in(licence, 0, licences.size() - 1) ? -1
                : licences.get(licence).sacks() - used.getOrDefault(licence, 0);
    }

    int bring(int merchant, int shire, int sort, int sacks) {
        if (!in(merchant, 0, men.size() - 1) || !in(shire, 0, 7) || !in(sort, 0, 3) || !in(sacks, 1, 500)) {
            return -2;
        }
        boolean forbidden = false;
        for (List<String> s : statements(today)) {
            forbidden |= s.get(0).equals("forbid") && hold(s, merchant, shire, sort);
        }
        List<Integer> sackBySack = new ArrayList<>();
        for (int i = 0; i < licences.size(); i++) {
            Licence l = licences.get(i);
            for (int k = 0; k < left(i) && l.merchant() == merchant && l.sort() == sort; k++) {
                sackBySack.add(i);
            }
        }
        if (forbidden && sackBySack.size() < sacks) {
            return -3;
        }
        if (lots.size() == 150) {
            return -4;
        }
        for (int k = 0; k < sacks && forbidden; k++) {
            used.merge(sackBySack.get(k), 1, Integer::sum);
        }
        lots.add(new Brought(merchant, shire, sort, sacks, today, forbidden));
        return lots.size() - 1;
    }

    int custom(int lot) {
        if (!in(lot, 0, lots.size() - 1) || customed.containsKey(lot)) {
            return -1;
        }
        int duty = dutyOn(today, lot);
        customed.put(lot, new Customed(today, duty, today + Integer.parseInt(last("term", "0"))));
        return duty;
    }

    int half(int lot, int which) {
        if (!customed.containsKey(lot) || !in(which, 0, 1)) {
            return -1;
        }
        return 1000 * lot + (which == 0 ? (lot * 37 + 11) % 997 : (lot * 53 + 29) % 997);
    }

    int rate(int kind, int upper, int lower) {
        if (!in(kind, 1, 3) || !in(upper, 1, 1000) || !in(lower, 1, 1000)) {
            return 0;
        }
        rates.put(kind, new int[] {upper, lower});
        return 1;
    }

    private int bond(int lot) {
        if (!customed.containsKey(lot) || customed.get(lot).duty() == 0) {
            return 0;
        }
        return ended.contains(lot) ? 3 : paid.getOrDefault(lot, 0) >= customed.get(lot).duty() ? 2 : 1;
    }

    int pay(int lot, int kind, int coins) {
        if (bond(lot) != 1 || !in(kind, 0, 3) || !in(coins, 1, 100000)) {
            return -1;
        }
        int[] rate = kind == 0 ? new int[] {1, 1} : rates.getOrDefault(kind, new int[] {0, 1});
        BigInteger worth = BigInteger.valueOf(coins).multiply(BigInteger.valueOf(rate[0]))
                .divide(BigInteger.valueOf(rate[1]));
        int all = worth.intValueExact() + paid.getOrDefault(lot, 0);
        int above = Math.max(0, all - customed.get(lot).duty());
        paid.put(lot, all - above);
        return above;
    }

    private boolean late(int lot) {
        return bond(lot) == 1 && today > customed.get(lot).due();
    }

    private int loaded(int lot, boolean onlyLost) {
        return loadings.stream().filter(l -> l.lot() == lot && (!onlyLost || lost.contains(l.ship())))
                .mapToInt(Loading::sacks).sum();
    }

    int lot(int lot, int what) {
        if (!in(lot, 0, lots.size() - 1)) {
            return -1;
        }
        Brought b = lots.get(lot);
        Customed k = customed.getOrDefault(lot, new Customed(-1, 0, -1));
        return switch (what) {
            case 0 -> b.merchant();
            case 1 -> b.shire();
            case 2 -> b.sort();
            case 3 -> b.sacks();
            case 4 -> b.day();
            case 5 -> b.free() ? 1 : 0;
            case 6 -> k.day() >= 0 ? 1 : 0;
            case 7 -> k.duty();
            case 8 -> bond(lot);
            case 9 -> bond(lot) == 0 ? -1 : k.due();
            case 10 -> paid.getOrDefault(lot, 0);
            case 11 -> late(lot) ? 1 : 0;
            case 12 -> loaded(lot, false);
            case 13 -> loaded(lot, true);
            case 14 -> k.day();
            default -> -1;
        };
    }

    int over(int lot) {
        return customed.containsKey(lot) ? dutyOn(customed.get(lot).day(), lot) - customed.get(lot).duty() : 0;
    }

    int fleet() {
        return fleets == 20 ? -1 : fleets++;
    }

    int ship(int fleet, int room) {
        if (!in(fleet, 0, fleets - 1) || sailed.contains(fleet) || !in(room, 1, 500) || ships.size() == 40) {
            return -1;
        }
        ships.add(new Vessel(fleet, room));
        return ships.size() - 1;
    }

    private int aboard(int ship) {
        return loadings.stream().filter(l -> l.ship() == ship).mapToInt(Loading::sacks).sum();
    }

    int load(int ship, int first, int second, int sacks) {
        if (!in(ship, 0, ships.size() - 1) || !in(sacks, 1, 500)) {
            return -2;
        }
        int lot = -1;
        for (int l : customed.keySet()) {
            boolean fits = half(l, 0) == first && half(l, 1) == second;
            boolean turned = half(l, 1) == first && half(l, 0) == second;
            lot = fits || turned ? l : lot;
        }
        if (lot == -1) {
            return -3;
        }
        if (sailed.contains(ships.get(ship).fleet())) {
            return -4;
        }
        if (loaded(lot, false) + sacks > lots.get(lot).sacks()) {
            return -5;
        }
        if (aboard(ship) + sacks > ships.get(ship).room()) {
            return -6;
        }
        if (loadings.size() == 200) {
            return -7;
        }
        loadings.add(new Loading(ship, lot, sacks));
        return lots.get(lot).sacks() - loaded(lot, false);
    }

    int sail(int fleet) {
        if (!in(fleet, 0, fleets - 1) || sailed.contains(fleet)) {
            return -1;
        }
        sailed.add(fleet);
        return loadings.stream().filter(l -> ships.get(l.ship()).fleet() == fleet).mapToInt(Loading::sacks).sum();
    }

    int sink(int ship) {
        if (!in(ship, 0, ships.size() - 1) || !sailed.contains(ships.get(ship).fleet()) || lost.contains(ship)
                || sold.containsKey(ships.get(ship).fleet())) {
            return -1;
        }
        lost.add(ship);
        int before = ended.size();
        for (int lot = 0; lot < lots.size() && last("lost", "stands").equals("ends"); lot++) {
            int number = lot;
            boolean in = loadings.stream().anyMatch(l -> l.ship() == ship && l.lot() == number);
            if (in && bond(lot) == 1) {
                ended.add(lot);
            }
        }
        return ended.size() - before;
    }

    int sell(int fleet, int coins) {
        if (!in(fleet, 0, fleets - 1) || !in(coins, 0, 1000000) || !sailed.contains(fleet)
                || sold.containsKey(fleet)) {
            return -1;
        }
        Map<Integer, Integer> parts = new HashMap<>();
        sold.put(fleet, parts);
        Map<Integer, BigInteger> worth = new HashMap<>();
        BigInteger all = BigInteger.ZERO;
        for (Loading l : loadings) {
            if (ships.get(l.ship()).fleet() == fleet && !lost.contains(l.ship())) {
                BigInteger of = BigInteger.valueOf((long) l.sacks() * (4 - lots.get(l.lot()).sort()));
                worth.merge(lots.get(l.lot()).merchant(), of, BigInteger::add);
                all = all.add(of);
            }
        }
        if (worth.isEmpty()) {
            return 0;
        }
        Map<Integer, BigInteger> rests = new HashMap<>();
        int over = coins;
        for (int m : worth.keySet()) {
            BigInteger[] share = BigInteger.valueOf(coins).multiply(worth.get(m)).divideAndRemainder(all);
            parts.put(m, share[0].intValueExact());
            rests.put(m, share[1]);
            over -= parts.get(m);
        }
        List<Integer> order = new ArrayList<>(worth.keySet());
        order.sort(Comparator.comparing((Integer m) -> rests.get(m).negate()).thenComparing(m -> m));
        for (int i = 0; i < over; i++) {
            parts.merge(order.get(i), 1, Integer::sum);
        }
        return parts.values().stream().mapToInt(p -> p).sum();
    }

    int part(int fleet, int merchant) {
        if (!in(fleet, 0, fleets - 1) || !in(merchant, 0, men.size() - 1)) {
            return -1;
        }
        return sold.containsKey(fleet) ? sold.get(fleet).getOrDefault(merchant, 0) : 0;
    }

    int shipOf(int ship, int what) {
        if (!in(ship, 0, ships.size() - 1)) {
            return -1;
        }
        return switch (what) {
            case 0 -> ships.get(ship).fleet();
            case 1 -> ships.get(ship).room();
            case 2 -> aboard(ship);
            case 3 -> lost.contains(ship) ? 1 : 0;
            case 4 -> sailed.contains(ships.get(ship).fleet()) ? 1 : 0;
            default -> -1;
        };
    }

    int sum(int shire, int sort, int what) {
        if (!in(shire, 0, 7) || !in(sort, 0, 3) || !in(what, 0, 6)) {
            return -100000;
        }
        int[] sums = new int[7];
        for (int[] h : harvests) {
            sums[0] += h[0] == shire && h[1] == sort ? h[2] : 0;
        }
        for (int lot = 0; lot < lots.size(); lot++) {
            if (lots.get(lot).shire() == shire && lots.get(lot).sort() == sort) {
                sums[1] += lots.get(lot).sacks();
                sums[2] += customed.containsKey(lot) ? lots.get(lot).sacks() : 0;
                sums[3] += loaded(lot, false);
                sums[4] += loaded(lot, true);
            }
        }
        sums[5] = sums[0] - sums[1];
        sums[6] = sums[1] - sums[2];
        return sums[what];
    }

    int count(int what) {
        int open = 0;
        int late = 0;
        for (int lot = 0; lot < lots.size(); lot++) {
            open += bond(lot) == 1 ? 1 : 0;
            late += late(lot) ? 1 : 0;
        }
        int[] counts = {today, men.size(), statutes.size(), licences.size(), lots.size(), fleets, ships.size(),
            tape.length(), open, late, paid.values().stream().mapToInt(p -> p).sum()};
        return in(what, 0, 10) ? counts[what] : -1;
    }
}
