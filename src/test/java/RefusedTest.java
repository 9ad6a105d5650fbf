import java.util.ArrayList;
import java.util.List;

/**
 * A call that is refused changes nothing, for each call of promises 2 to 18 and each reason to refuse it, in
 * lines of many states; nor does a question that is answered.
 */
public final class RefusedTest {
    private static final double LENGTH = 2.0;
    private static final double NAN = 0.0 / 0.0;
    private static final double INFINITE = 1.0 / 0.0;
    private static final Due due = new Due();

    public static void main(String[] args) {
        State[] open = {empty(), idle(), halfTold(), fullyTold()};
        State[] closed = {closed(), running(), standing(), allFed(), manyEvents(), over()};
        for (State state : open) {
            wrongArguments(state);
            rightQuestions(state);
        }
        for (State state : closed) {
            wrongArguments(state);
            rightQuestions(state);
            tellingRefused(state);
        }
        isWhatItIsCalled(closed[1], closed[2]);
        allAcceptedWhileOpen(open[2]);
        fullRefuses(open[3]);
        for (State state : List.of(closed[3], closed[4])) {
            state.refuses(due, Call.feed(0, state.now + 1, 0, 1.0));
            state.refuses(due, Call.feed(0, 10000, 4, 10.0));
        }
        closed[5].refuses(due, Call.feed(0, 10000, 0, 1.0));
        closed[5].refuses(due, Call.run(9999));
        closed[1].accepts(due, Call.feed(0, closed[1].now + 1, 0, 1.0));
        closed[1].accepts(due, Call.feed(2, 10000, 4, 10.0));
        due.end();
    }

    /** A state in which little has come about would show little of what a refused call changes. */
    private static void isWhatItIsCalled(State running, State standing) {
        for (Call call : List.of(Call.inside(), Call.lost(0), Call.lost(1), Call.lost(3), Call.run(running.now))) {
            due.is(running.name + ": some of " + call.name(), ((Number) running.answer(call)).longValue() > 0, true);
        }
        due.is("inside of " + standing.name, standing.answer(Call.inside()), 1L);
        due.is("the jam of " + standing.name, standing.answer(Call.jam(0, 0)), 7);
        due.is("its tenths", standing.answer(Call.lost(3)), 4L);
    }

    private static State empty() {
        return state("an empty line", 0, 0, 0, List.of());
    }

    private static State idle() {
        return state("a line of one belt", 7, 1, 0, List.of(Call.belt(6, LENGTH), Call.run(7)));
    }

    /** Belt 1 is joined to bunker 1, belt 0 to belt 1; belt 2 is a ring that jams. */
    private static List<Call> half() {
        return new ArrayList<>(List.of(
                Call.belt(4, LENGTH), Call.belt(5, 1.0), Call.belt(2, 3.0), Call.bunker(1.0), Call.bunker(4.5),
                Call.joinTo(0, 1), Call.joinTo(1, -3), Call.joinTo(2, 2),
                Call.head(0, 1.0, 0.5), Call.head(1, 0.25, 0.25),
                Call.rule(1, 6.0, 3), Call.rule(2, 2.0, 4),
                Call.picker(0, 4.0, 0.5), Call.picker(1, 2.0, 0.25), Call.robot(0, 1.5, 0.5), Call.run(5)));
    }

    private static State halfTold() {
        return state("a line half told", 5, 3, 2, half());
    }

    private static State fullyTold() {
        List<Call> calls = new ArrayList<>();
        for (int i = 0; i < 6; i++) {
            calls.add(Call.belt(3 + i, LENGTH));
        }
        for (int i = 0; i < 8; i++) {
            calls.add(Call.head(i % 6, i * 0.25, i * 0.125));
        }
        for (int i = 0; i < 4; i++) {
            calls.add(Call.bunker(i));
            calls.add(Call.picker(i, 1.0 + i, 0.5));
            calls.add(Call.robot(i, 1.0, 0.5));
        }
        for (int i = 0; i < 6; i++) {
            calls.add(Call.joinTo(i, i < 3 ? i + 1 : i == 5 ? -1 : -5 + i - 3));
            calls.add(Call.rule(i, 2.5 + i, 2 + i));
        }
        return state("a line of the most of all", 0, 6, 4, calls);
    }

    private static State closed() {
        List<Call> calls = half();
        calls.add(Call.feed(0, 6, 1, 1.0));
        return state("a line closed by a piece", 5, 3, 2, calls);
    }

    private static State running() {
        return state("a line that runs", 14, 3, 2, fed(half(), 30, 3, 14));
    }

    private static State standing() {
        List<Call> calls = half();
        calls.add(Call.feed(2, 6, 0, 2.0));
        calls.add(Call.feed(2, 7, 0, 0.5));
        calls.add(Call.run(8));
        return state("a line that stands", 8, 3, 2, calls);
    }

    private static State allFed() {
        return state("a line with all its pieces", 20, 3, 2, fed(half(), 60, 3, 20));
    }

    private static State manyEvents() {
        List<Call> calls = new ArrayList<>(List.of(Call.belt(1, LENGTH), Call.joinTo(0, 0)));
        for (int piece = 0; piece < 60; piece++) {
            calls.add(Call.feed(0, 1, 0, 0.0));
        }
        calls.add(Call.run(34));
        return state("a line of more than 2000 events", 34, 1, 0, calls);
    }

    private static State over() {
        return state("a line at its last tenth", 10000, 3, 2, fed(half(), 30, 2, 10000));
    }

    private static List<Call> fed(List<Call> calls, int pieces, int belts, int to) {
        for (int piece = 0; piece < pieces; piece++) {
            calls.add(Call.feed(piece % belts, 6 + piece / 3, piece % 5, piece % 7 * 0.5));
        }
        calls.add(Call.run(to));
        return calls;
    }

    /** It goes on with pieces alone, and with more that is told first, as far as the line is open. */
    private static State state(String name, int now, int belts, int bunkers, List<Call> calls) {
        int end = Math.min(now + 70, 10000);
        List<Call> fed = new ArrayList<>();
        for (int piece = 0; piece < 24; piece++) {
            fed.add(Call.feed(piece % 6, now + 1 + piece / 4, (piece + 1) % 5, piece % 7 * 0.5));
        }
        for (int time = now; time < end; time += 3) {
            fed.add(Call.run(time));
        }
        fed.add(Call.run(end));
        List<Call> told = new ArrayList<>(List.of(
                Call.bunker(2.0), Call.head(0, 1.5, 0.5), Call.picker(0, 3.0, 1.0), Call.robot(0, 0.5, 0.25),
                Call.belt(3, 1.0), Call.head(0, 0.0, 0.75), Call.rule(0, 5.0, 2)));
        told.addAll(fed);
        return new State(name, now, belts, bunkers, calls).goesOn(fed, end).goesOn(told, end);
    }

    private static void wrongArguments(State state) {
        wrongTelling(state);
        wrongFeeding(state);
        wrongQuestions(state);
        for (int tenths : new int[] {state.now - 1, -1, 10001, Integer.MIN_VALUE, Integer.MAX_VALUE}) {
            state.refuses(due, Call.run(tenths));
        }
    }

    private static void wrongTelling(State state) {
        for (int tenths : beyond(1, 1000)) {
            state.refuses(due, Call.belt(tenths, 1.0));
        }
        for (double length : beyond(0.5, 1000.0)) {
            state.refuses(due, Call.belt(1, length));
        }
        for (double at : beyond(0.0, LENGTH)) {
            state.refuses(due, Call.head(0, at, 0.5));
        }
        for (double miss : beyond(0.0, 1.0)) {
            state.refuses(due, Call.head(0, 1.0, miss));
            state.refuses(due, Call.robot(0, 1.0, miss));
        }
        for (double number : beyond(0.0, 10000.0)) {
            state.refuses(due, Call.bunker(number));
            state.refuses(due, Call.rule(0, number, 5));
        }
        for (int stands : beyond(1, 1000)) {
            state.refuses(due, Call.rule(0, 0.5, stands));
        }
        for (double rate : beyond(0.125, 100.0)) {
            state.refuses(due, Call.picker(0, rate, 0.5));
        }
        for (double number : beyond(0.0, 10.0)) {
            state.refuses(due, Call.picker(0, 1.0, number));
            state.refuses(due, Call.robot(0, number, 0.5));
        }
        for (int to : beyond(-1 - state.bunkers, state.belts - 1)) {
            state.refuses(due, Call.joinTo(0, to));
        }
        for (int belt : beyond(0, state.belts - 1)) {
            state.refuses(due, Call.head(belt, 0.0, 0.5));
            state.refuses(due, Call.joinTo(belt, -1));
            state.refuses(due, Call.rule(belt, 0.5, 5));
            state.refuses(due, Call.picker(belt, 1.0, 0.5));
            state.refuses(due, Call.robot(belt, 1.0, 0.5));
        }
    }

    private static void wrongFeeding(State state) {
        int next = Math.min(state.now + 1, 10000);
        for (int belt : beyond(0, state.belts - 1)) {
            state.refuses(due, Call.feed(belt, next, 1, 1.0));
        }
        for (int time : beyond(state.now + 1, 10000)) {
            state.refuses(due, Call.feed(0, time, 1, 1.0));
        }
        for (int kind : beyond(0, 4)) {
            state.refuses(due, Call.feed(0, next, kind, 1.0));
        }
        for (double size : beyond(0.0, 10.0)) {
            state.refuses(due, Call.feed(0, next, 1, size));
        }
    }

    private static void wrongQuestions(State state) {
        for (int what : beyond(0, 3)) {
            state.refuses(due, Call.event(0, what));
            state.refuses(due, Call.jam(0, what));
            state.refuses(due, Call.lost(what));
        }
        for (int k : beyond(0, 1999)) {
            state.refuses(due, Call.event(k, 0));
        }
        for (int k : beyond(0, 59)) {
            state.refuses(due, Call.jam(k, 0));
            state.refuses(due, Call.pieceKind(k));
        }
        for (int belt : beyond(0, state.belts - 1)) {
            state.refuses(due, Call.out(belt, 0));
            state.refuses(due, Call.interval(belt, 0, 0));
        }
        for (int kind : beyond(0, 4)) {
            state.refuses(due, Call.out(0, kind));
            state.refuses(due, Call.interval(0, kind, 1));
        }
        for (int end : beyond(0, 1)) {
            state.refuses(due, Call.interval(0, 1, end));
        }
    }

    private static void rightQuestions(State state) {
        state.isUnchangedBy(due, Call.run(state.now));
        state.isUnchangedBy(due, Call.event(0, 2));
        state.isUnchangedBy(due, Call.out(0, 0));
        state.isUnchangedBy(due, Call.inside());
        state.isUnchangedBy(due, Call.jam(0, 3));
        state.isUnchangedBy(due, Call.lost(3));
        state.isUnchangedBy(due, Call.interval(0, 0, 0));
        state.isUnchangedBy(due, Call.interval(0, 0, 1));
        state.isUnchangedBy(due, Call.same());
        state.isUnchangedBy(due, Call.pieceKind(0L));
    }

    /** Calls with right arguments, that an open line with room for one more of each takes. */
    private static List<Call> tellings() {
        return List.of(Call.belt(1, 0.5), Call.head(0, LENGTH, 1.0), Call.bunker(10000.0), Call.joinTo(0, 0),
                Call.joinTo(0, -1), Call.rule(0, 0.0, 1000), Call.picker(0, 0.125, 10.0), Call.robot(0, 10.0, 0.0));
    }

    private static void allAcceptedWhileOpen(State state) {
        for (Call call : tellings()) {
            state.accepts(due, call);
        }
        state.accepts(due, Call.joinTo(0, -3));
        state.accepts(due, Call.feed(2, 6, 4, 10.0));
    }

    private static void tellingRefused(State state) {
        for (Call call : tellings()) {
            state.refuses(due, call);
        }
        if (state.bunkers > 0) {
            state.refuses(due, Call.joinTo(0, -2));
        }
    }

    private static void fullRefuses(State state) {
        state.refuses(due, Call.belt(5, 1.0));
        state.refuses(due, Call.head(5, 0.0, 0.0));
        state.refuses(due, Call.bunker(1.0));
        state.refuses(due, Call.picker(5, 1.0, 0.0));
        state.refuses(due, Call.robot(5, 10.0, 0.0));
        state.accepts(due, Call.joinTo(5, -5));
        state.accepts(due, Call.joinTo(5, 5));
        state.accepts(due, Call.rule(5, 1.0, 1));
        state.accepts(due, Call.feed(5, 1, 0, 1.0));
    }

    private static int[] beyond(int least, int greatest) {
        return new int[] {least - 1, greatest + 1, Integer.MIN_VALUE, Integer.MAX_VALUE};
    }

    private static double[] beyond(double least, double greatest) {
        return new double[] {Math.nextDown(least), Math.nextUp(greatest), NAN, INFINITE, -INFINITE};
    }
}
