import java.util.ArrayList;
import java.util.List;
import java.util.function.IntFunction;

/** Calls in their order, to be made on new ports: so ports can be made alike as often as wanted. */
final class Script {
    interface Call {
        long on(StaplePort port);
    }

    private final List<Call> calls = new ArrayList<>();

    Script add(Call call) {
        calls.add(call);
        return this;
    }

    Script times(int times, IntFunction<Call> nth) {
        for (int i = 0; i < times; i++) {
            calls.add(nth.apply(i));
        }
        return this;
    }

    /** So many merchants: of man 0, 1, 2, 0, 1 and so on. */
    Script merchants(int merchants) {
        return times(merchants, i -> x -> x.merchant(i % 3));
    }

    Script day(int day) {
        return add(x -> Checks.bit(x.day(day)));
    }

    /** Feeds a text, with blanks that fill the last twenty bytes. */
    Script feed(String text) {
        String padded = text + " ".repeat((20 - text.length() % 20) % 20);
        return times(padded.length() / 20, i -> x -> x.feed(Checks.four(padded, 20 * i),
                Checks.four(padded, 20 * i + 4), Checks.four(padded, 20 * i + 8),
                Checks.four(padded, 20 * i + 12), Checks.four(padded, 20 * i + 16)));
    }

    Script adopt(String text) {
        return feed(text).add(x -> x.adopt(text.length()));
    }

    /** Lots of SHIRE 0 are brought, one for each row {merchant, sort, sacks}. */
    Script bring(int[]... rows) {
        return times(rows.length, i -> x -> x.bring(rows[i][0], 0, rows[i][1], rows[i][2]));
    }

    /** All lots up to this one are CUSTOMED. */
    Script customUpTo(int last) {
        return times(last + 1, lot -> x -> x.custom(lot));
    }

    Script load(int ship, int lot, int sacks) {
        return add(x -> x.load(ship, firstHalf(lot), secondHalf(lot), sacks));
    }

    static int firstHalf(int lot) {
        return 1000 * lot + (37 * lot + 11) % 997;
    }

    static int secondHalf(int lot) {
        return 1000 * lot + (53 * lot + 29) % 997;
    }

    int length() {
        return calls.size();
    }

    Call get(int number) {
        return calls.get(number);
    }

    /** A new port on which all the calls were made. */
    StaplePort port() {
        StaplePort port = new StaplePort();
        for (Call call : calls) {
            call.on(port);
        }
        return port;
    }
}
