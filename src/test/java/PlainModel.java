import java.util.ArrayList;
import java.util.List;
import java.util.TreeMap;

/**
 * The document once more, without a thought for space or speed: the events alone are kept, and every
 * count is read out of them. It is for accepted calls' effects; bounds are told by the arguments.
 */
final class PlainModel {
    record Head(int belt, int place, double miss) { }

    record Robot(int belt, double reach, double miss) { }

    record Picker(int belt, double rate, double tires) { }

    record Piece(int belt, int time, int kind, double size) { }

    record Event(int time, int piece, int what, int where) { }

    record Jam(int time, int piece, int belt, int others) { }

    private final long seed;
    private final List<Integer> tenths = new ArrayList<>();
    private final List<Double> lengths = new ArrayList<>();
    private final List<Integer> joins = new ArrayList<>();
    private final TreeMap<Integer, Double> loads = new TreeMap<>();
    private final TreeMap<Integer, Integer> stands = new TreeMap<>();
    private final List<Head> heads = new ArrayList<>();
    private final List<Double> rooms = new ArrayList<>();
    private final List<Robot> robots = new ArrayList<>();
    private final List<Picker> pickers = new ArrayList<>();
    private final List<Piece> pieces = new ArrayList<>();
    private final List<Event> events = new ArrayList<>();
    private final List<Jam> jams = new ArrayList<>();
    /** Piece to {belt, place}, of the pieces that are on belts. */
    private final TreeMap<Integer, int[]> places = new TreeMap<>();
    private int now;

    PlainModel(long seed) {
        this.seed = seed;
    }

    int belt(int tenths, double length) {
        if (!pieces.isEmpty() || this.tenths.size() == 6) return -1;
        if (tenths < 1 || tenths > 1000 || !(length >= 0.5) || !(length <= 1000.0)) return -1;
        this.tenths.add(tenths);
        lengths.add(length);
        joins.add(-1);
        return lengths.size() - 1;
    }

    int head(int belt, double at, double miss) {
        if (!pieces.isEmpty() || heads.size() == 8 || noBelt(belt)) return -1;
        if (!(at >= 0.0) || !(at <= lengths.get(belt)) || !(miss >= 0.0) || !(miss <= 1.0)) return -1;
        heads.add(new Head(belt, (int) Math.floor(at / lengths.get(belt) * tenths.get(belt)), miss));
        return heads.size() - 1;
    }

    int bunker(double room) {
        if (!pieces.isEmpty() || rooms.size() == 4 || !(room >= 0.0) || !(room <= 10000.0)) return -1;
        rooms.add(room);
        return rooms.size() - 1;
    }

    boolean joinTo(int belt, int to) {
        if (!pieces.isEmpty() || noBelt(belt) || to >= tenths.size() || to < -1 - rooms.size()) return false;
        joins.set(belt, to);
        return true;
    }

    boolean rule(int belt, double load, int stands) {
        if (!pieces.isEmpty() || noBelt(belt)) return false;
        if (!(load >= 0.0) || !(load <= 10000.0) || stands < 1 || stands > 1000) return false;
        loads.put(belt, load);
        this.stands.put(belt, stands);
        return true;
    }

    int picker(int belt, double rate, double tires) {
        if (!pieces.isEmpty() || pickers.size() == 4 || noBelt(belt)) return -1;
        if (!(rate >= 0.125) || !(rate <= 100.0) || !(tires >= 0.0) || !(tires <= 10.0)) return -1;
        pickers.add(new Picker(belt, rate, tires));
        return pickers.size() - 1;
    }

    int robot(int belt, double reach, double miss) {
        if (!pieces.isEmpty() || robots.size() == 4 || noBelt(belt)) return -1;
        if (!(reach >= 0.0) || !(reach <= 10.0) || !(miss >= 0.0) || !(miss <= 1.0)) return -1;
        robots.add(new Robot(belt, reach, miss));
        return robots.size() - 1;
    }

    boolean feed(int belt, int time, int kind, double size) {
        if (pieces.size() == 60 || noBelt(belt) || time <= now || time > 10000) return false;
        if (kind < 0 || kind > 4 || !(size >= 0.0) || !(size <= 10.0)) return false;
        pieces.add(new Piece(belt, time, kind, size));
        return true;
    }

    int run(int to) {
        if (to < now || to > 10000) return -1;
        while (now < to) {
            now++;
            tenth();
        }
        return events.size();
    }

    int event(int k, int what) {
        if (k < 0 || k >= events.size() || k >= 2000) return -1;
        Event e = events.get(k);
        return what == 0 ? e.time : what == 1 ? e.piece : what == 2 ? e.what : what == 3 ? e.where : -1;
    }

    long out(int belt, int kind) {
        return noBelt(belt) || kind < 0 || kind > 4 ? -1 : outTimes(belt, kind).size();
    }

    long inside() {
        return places.size() + count(9);
    }

    int jam(int k, int what) {
        if (k < 0 || k >= jams.size()) return -1;
        Jam j = jams.get(k);
        return what == 0 ? j.time : what == 1 ? j.piece : what == 2 ? j.belt : what == 3 ? j.others : -1;
    }

    long lost(int cause) {
        if (cause == 3) {
            return jams.stream().mapToLong(jam -> stands.get(jam.belt)).sum();
        }
        return cause == 0 ? count(3) : cause == 1 ? count(7) : cause == 2 ? count(8) : -1;
    }

    double interval(int belt, int kind, int end) {
        if (noBelt(belt) || end < 0 || end > 1) return -1.0;
        List<Integer> times = outTimes(belt, kind);
        double answer = -1.0;
        for (int i = 1; i < times.size(); i++) {
            double gap = (times.get(i) - times.get(i - 1)) / 10.0;
            if (i == 1 || (end == 0 ? gap < answer : gap > answer)) answer = gap;
        }
        return answer;
    }

    boolean same() {
        long entered = pieces.stream().filter(piece -> piece.time <= now).count();
        return entered == inside() + count(3) + count(4) + count(5) + count(6) + count(7) + count(8);
    }

    int pieceKind(long number) {
        return number < 0 || number >= pieces.size() ? -1 : pieces.get((int) number).kind;
    }

    private boolean noBelt(int belt) {
        return belt < 0 || belt >= tenths.size();
    }

    private long count(int what) {
        return events.stream().filter(e -> e.what == what).count();
    }

    private List<Integer> outTimes(int belt, int kind) {
        return events.stream()
                .filter(e -> e.what == 4 && e.where == belt && pieces.get(e.piece).kind == kind)
                .map(Event::time).toList();
    }

    private void tenth() {
        List<Integer> moved = new ArrayList<>();
        places.forEach((piece, at) -> {
            int belt = at[0];
            boolean stood = jams.stream().anyMatch(jam -> jam.belt == belt
                    && now > jam.time && now <= jam.time + stands.get(belt));
            if (!stood) {
                at[1]++;
                moved.add(piece);
            }
        });
        for (int piece = 0; piece < pieces.size(); piece++) {
            if (pieces.get(piece).time == now) enter(piece, pieces.get(piece).belt);
            if (moved.contains(piece)) {
                int belt = places.get(piece)[0];
                look(piece);
                if (places.get(piece)[1] == tenths.get(belt)) atEnd(piece, belt);
            }
        }
    }

    private void enter(int piece, int belt) {
        boolean refuses = jams.stream().anyMatch(jam -> jam.belt == belt
                && now >= jam.time && now < jam.time + stands.get(belt));
        if (refuses) {
            tell(piece, 7, belt);
            return;
        }
        places.put(piece, new int[] {belt, 0});
        if (loads.containsKey(belt)) {
            double sum = 0.0;
            int on = 0;
            for (int other : places.keySet()) {
                if (places.get(other)[0] == belt) {
                    sum += pieces.get(other).size;
                    on++;
                }
            }
            if (sum > loads.get(belt)) {
                places.remove(piece);
                jams.add(new Jam(now, piece, belt, on - 1));
                tell(piece, 3, belt);
                return;
            }
        }
        tell(piece, 0, belt);
        look(piece);
    }

    private void look(int piece) {
        int[] at = places.get(piece);
        for (int head = 0; head < heads.size(); head++) {
            if (heads.get(head).belt == at[0] && heads.get(head).place == at[1]) {
                tell(piece, misses(piece, head, heads.get(head).miss) ? 2 : 1, head);
            }
        }
    }

    private void atEnd(int piece, int belt) {
        places.remove(piece);
        Piece p = pieces.get(piece);
        for (int robot = 0; robot < robots.size(); robot++) {
            Robot r = robots.get(robot);
            if (r.belt == belt && p.kind != 0 && p.size <= r.reach && !misses(piece, 100 + robot, r.miss)) {
                tell(piece, 6, robot);
                return;
            }
        }
        for (int picker = 0; picker < pickers.size(); picker++) {
            if (pickers.get(picker).belt == belt && p.kind != 0 && isFree(picker)) {
                tell(piece, 5, picker);
                return;
            }
        }
        int to = joins.get(belt);
        if (to >= 0) {
            enter(piece, to);
        } else if (to == -1) {
            tell(piece, 4, belt);
        } else {
            double sum = 0.0;
            for (Event e : events) {
                if (e.what == 9 && e.where == -2 - to) sum += pieces.get(e.piece).size;
            }
            tell(piece, sum + p.size <= rooms.get(-2 - to) ? 9 : 8, -2 - to);
        }
    }

    private boolean isFree(int picker) {
        Picker p = pickers.get(picker);
        int before = 0;
        for (Event e : events) {
            if (e.what == 5 && e.where == picker) {
                double busy = Math.floor(10.0 / p.rate * (1.0 + p.tires * before));
                if (now < e.time + 1 + busy) return false;
                before++;
            }
        }
        return true;
    }

    private boolean misses(long piece, long device, double miss) {
        long x = seed * 6364136223846793005L + piece * 1442695040888963407L + device * 2862933555777941757L;
        x = (x ^ x >>> 29) * -4658895280553007687L;
        x = x ^ x >>> 32;
        return (x >>> 11) / 9007199254740992.0 < miss;
    }

    private void tell(int piece, int what, int where) {
        events.add(new Event(now, piece, what, where));
    }
}
