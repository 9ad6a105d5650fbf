import java.util.function.Function;

/** A call with its arguments, that can be made on many objects. */
record Call(String name, Function<SortLineEvents, Object> on) {
    static Call belt(int tenths, double length) {
        return new Call("belt(" + tenths + ", " + length + ")", line -> line.belt(tenths, length));
    }

    static Call head(int belt, double at, double miss) {
        return new Call("head(" + belt + ", " + at + ", " + miss + ")", line -> line.head(belt, at, miss));
    }

    static Call bunker(double room) {
        return new Call("bunker(" + room + ")", line -> line.bunker(room));
    }

    static Call joinTo(int belt, int to) {
        return new Call("joinTo(" + belt + ", " + to + ")", line -> line.joinTo(belt, to));
    }

    static Call rule(int belt, double load, int stands) {
        return new Call("rule(" + belt + ", " + load + ", " + stands + ")", line -> line.rule(belt, load, stands));
    }

    static Call picker(int belt, double rate, double tires) {
        return new Call("picker(" + belt + ", " + rate + ", " + tires + ")", line -> line.picker(belt, rate, tires));
    }

    static Call robot(int belt, double reach, double miss) {
        return new Call("robot(" + belt + ", " + reach + ", " + miss + ")", line -> line.robot(belt, reach, miss));
    }

    static Call feed(int belt, int tenths, int kind, double size) {
        return new Call("feed(" + belt + ", " + tenths + ", " + kind + ", " + size + ")",
                line -> line.feed(belt, tenths, kind, size));
    }

    static Call run(int tenths) {
        return new Call("run(" + tenths + ")", line -> line.run(tenths));
    }

    static Call event(int k, int what) {
        return new Call("event(" + k + ", " + what + ")", line -> line.event(k, what));
    }

    static Call out(int belt, int kind) {
        return new Call("out(" + belt + ", " + kind + ")", line -> line.out(belt, kind));
    }

    static Call inside() {
        return new Call("inside()", line -> line.inside());
    }

    static Call jam(int k, int what) {
        return new Call("jam(" + k + ", " + what + ")", line -> line.jam(k, what));
    }

    static Call lost(int cause) {
        return new Call("lost(" + cause + ")", line -> line.lost(cause));
    }

    static Call interval(int belt, int kind, int end) {
        return new Call("interval(" + belt + ", " + kind + ", " + end + ")", line -> line.interval(belt, kind, end));
    }

    static Call same() {
        return new Call("same()", line -> line.same());
    }

    static Call pieceKind(long number) {
        return new Call("pieceKind(" + number + ")", line -> line.pieceKind(number));
    }

    /** Whether this is what a refused call answers: NONE, -1.0 or false. */
    static boolean isRefusal(Object answer) {
        if (answer instanceof Number number) {
            return number.doubleValue() == -1.0;
        }
        return Boolean.FALSE.equals(answer);
    }
}
