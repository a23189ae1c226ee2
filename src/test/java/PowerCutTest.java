import java.util.ArrayList;
import java.util.List;
import java.util.Random;

/** Cuts calls off behind every unit: then the tree is the one from before the call, or the one that it would leave. */
public final class PowerCutTest extends Sentences {
    private interface Call {
        int on(FlashTree x);
    }

    private static final List<Call> SET_UP = List.of(
        x -> x.format(), x -> x.mount(),
        x -> x.make(0, 1), x -> x.make(0, 2), x -> x.make(1, 3),
        x -> x.write(1, 9, 6, -1), x -> x.write(2, 9, 1, 5), x -> x.write(2, 8, 0, 0), x -> x.write(3, 7, 2, 700));
    private static final List<Call> CHANGES = List.of(
        x -> x.make(2, 4), x -> x.write(1, 9, 2, 77), x -> x.write(1, 5, 6, 1), x -> x.remove(3, 7),
        x -> x.rename(1, 9, 1, 4), x -> x.rename(1, 3, 1, 4));
    private static final List<Call> MOVES = List.of(
        x -> x.rename(1, 9, 2, 9), x -> x.rename(1, 9, 0, 9), x -> x.rename(1, 3, 2, 3),
        x -> x.rename(2, 9, 3, 7), x -> x.rename(0, 2, 3, 2));
    private static final int MOST_PADDING = 6;
    private static final int TREES = 200;
    private static final int CALLS_BEFORE_A_CUT = 50;

    public static void main(String[] args) throws Exception {
        run(PowerCutTest.class);
    }

    @Says(at = "Terms", text = "mounting shows the tree as it was before the call that was cut off, or as that call would have left it")
    static void aCallThatWasCutOffIsDoneOrNotDone() {
        for (int padding = 0; padding < MOST_PADDING; padding++) {
            for (int i = 0; i < CHANGES.size(); i++) {
                cutEverywhere("change " + i + ", padding " + padding, padded(SET_UP, padding), CHANGES.get(i), 0);
            }
            cutEverywhere("format, padding " + padding, padded(SET_UP, padding), x -> {
                int answer = x.format();
                return answer == 0 ? x.mount() : answer;
            }, 0);
        }
    }

    @Says(at = "Terms", text = "Moving an entry from one folder to another is such a call too, though it changes two logs.")
    static void aMoveThatWasCutOffIsDoneOrNotDone() {
        for (int padding = 0; padding < MOST_PADDING; padding++) {
            for (int i = 0; i < MOVES.size(); i++) {
                cutEverywhere("move " + i + ", padding " + padding, padded(SET_UP, padding), MOVES.get(i), 0);
            }
        }
    }

    @Says(at = "Terms", text = "Moving an entry from one folder to another is such a call too, though it changes two logs.")
    static void aMountThatEndsAMoveMayBeCutOffAgainAndAgain() {
        for (int again = 1; again < 8; again++) {
            cutEverywhere("cut " + again + " times more", SET_UP, MOVES.get(0), again);
            cutEverywhere("cut " + again + " times more", SET_UP, MOVES.get(2), again);
        }
    }

    @Says(at = "What it is", text = "outlives a power failure at any byte")
    static void anyTreeOutlivesAPowerFailureAtAnyByte() {
        for (int seed = 0; seed < TREES; seed++) {
            Random random = new Random(seed);
            FlashTree x = new FlashTree();
            List<Call> setUp = new ArrayList<>(SET_UP);
            setUp.forEach(call -> call.on(x));
            for (int i = random.nextInt(CALLS_BEFORE_A_CUT); i > 0; i--) {
                Call call = random.nextInt(5) == 0 ? cutOff(drawn(random), random.nextInt(16)) : drawn(random);
                if (call.on(x) >= 0) {
                    setUp.add(call);
                }
            }
            Call change = drawn(random);
            while (!changes(setUp, change)) {
                change = drawn(random);
            }
            cutEverywhere("tree " + seed, setUp, change, seed % 4);
        }
    }

    private static boolean changes(List<Call> setUp, Call call) {
        FlashTree x = prepared("drawn", setUp);
        String before = tree(x);
        return call.on(x) >= 0 && !tree(x).equals(before);
    }

    /** A call that most trees of the folders 0 to 7 allow now and then; the numbers are drawn once for all objects. */
    private static Call drawn(Random random) {
        int kind = random.nextInt(8);
        int d = random.nextInt(3) == 0 ? 0 : random.nextInt(8);
        int e = random.nextInt(3) == 0 ? d : random.nextInt(8);
        int name = 1 + random.nextInt(9);
        int to = 1 + random.nextInt(9);
        int n = random.nextInt(7);
        long v = random.nextLong();
        return switch (kind) {
            case 0, 1 -> x -> x.make(d, name);
            case 2, 3 -> x -> x.write(d, name, n, v);
            case 4 -> x -> x.remove(d, name);
            default -> x -> x.rename(d, name, e, to);
        };
    }

    /** Leaves what a power failure leaves: a torn record, a block half written anew, or a move that mount ended. */
    private static Call cutOff(Call call, int k) {
        return x -> {
            x.cut(k);
            call.on(x);
            x.cut(-1);
            x.on();
            return x.mount();
        };
    }

    /** Writes more into the logs, so that other commits come upon a full block. */
    private static List<Call> padded(List<Call> setUp, int padding) {
        List<Call> calls = new ArrayList<>(setUp);
        for (int i = 0; i < padding; i++) {
            int v = i;
            calls.add(x -> x.write(1, 9, 6, v));
            calls.add(x -> x.write(2, 9, 4, v));
            calls.add(x -> x.rename(0, v == 0 ? 1 : 49 + v, 0, 50 + v));
        }
        return calls;
    }

    private static FlashTree prepared(String what, List<Call> setUp) {
        FlashTree x = new FlashTree();
        for (Call call : setUp) {
            due.holds(what + ": set up", call.on(x) >= 0);
        }
        return x;
    }

    private static void cutEverywhere(String what, List<Call> setUp, Call change, int again) {
        FlashTree whole = prepared(what, setUp);
        String before = tree(whole);
        int units = whole.units();
        due.holds(what + ": the call uncut", change.on(whole) >= 0);
        units = whole.units() - units;
        String after = tree(whole);
        due.holds(what + ": the call changes the tree", !before.equals(after));
        boolean wasAfter = false;
        for (int k = 0; k < units; k++) {
            String when = what + ", cut after " + k + " of " + units;
            FlashTree x = prepared(what, setUp);
            x.cut(k);
            due.same(when, change.on(x), -9);
            due.holds(when + ": off", x.off());
            x.on();
            for (int i = 0; i < again; i++) {
                x.cut(i);
                due.holds(when + ": mount", x.mount() == (x.off() ? -9 : 0));
                x.cut(-1);
                x.on();
            }
            due.same(when + ": mount", x.mount(), 0);
            String now = tree(x);
            due.holds(when + ": tree " + now, now.equals(before) || now.equals(after));
            due.holds(when + ": what was done stays done", !wasAfter || now.equals(after));
            wasAfter = now.equals(after);
            if (!wasAfter) {
                due.holds(when + ": the call again", change.on(x) >= 0);
                due.holds(when + ": the call again, tree", tree(x).equals(after));
            }
        }
    }

    private static String tree(FlashTree x) {
        return "free " + x.free() + " " + tree(x, 0);
    }

    private static String tree(FlashTree x, int d) {
        StringBuilder text = new StringBuilder("(");
        for (int k = 0; x.entry(d, k) > 0; k++) {
            int name = x.entry(d, k);
            text.append(' ').append(name);
            if (x.kind(d, name) == 2) {
                text.append(tree(x, x.child(d, name)));
            } else {
                text.append(':').append(x.size(d, name)).append(':').append(x.data(d, name));
            }
        }
        return text.append(')').toString();
    }
}
