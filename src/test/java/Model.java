import java.math.BigInteger;
import java.util.ArrayDeque;
import java.util.ArrayList;
import java.util.Arrays;
import java.util.Deque;
import java.util.List;

/**
 * What the document says, told once more in another way: thoughts are a diary, rings
 * are tried on copies, rows are all tried, the odds are added up over who sleeps.
 */
final class Model {
    private static final int BAD = -1, STATE = -2, FULL = -3, NONE = -9, NO = -1000000;

    private static final class Rider implements Cloneable {
        int seat, looks, law, downAt = NONE;
        boolean aboard = true;

        Rider copy() {
            Rider rider = new Rider();
            rider.seat = seat;
            rider.looks = looks;
            rider.law = law;
            rider.downAt = downAt;
            rider.aboard = aboard;
            return rider;
        }
    }

    private static final class World {
        int stop, lonely;
        List<Rider> riders = new ArrayList<>();
        /** Thinker and thought, one behind another. */
        List<int[]> diary = new ArrayList<>();

        World copy() {
            World world = new World();
            world.stop = stop;
            world.lonely = lonely;
            riders.forEach(rider -> world.riders.add(rider.copy()));
            world.diary.addAll(diary);
            return world;
        }

        int latest(int r, int q) {
            for (int i = diary.size(); i > 0; i--) {
                if (Arrays.equals(diary.get(i - 1), new int[] {r, q})) {
                    return i;
                }
            }
            return 0;
        }

        List<Integer> others(int r) {
            List<Integer> others = new ArrayList<>();
            for (int q = 0; q < riders.size(); q++) {
                if (q != r && riders.get(q).aboard) {
                    others.add(q);
                }
            }
            return others;
        }

        int bits() {
            return others(-1).stream().mapToInt(r -> 1 << r).sum();
        }

        int whom(int r, int law) {
            int size = riders.size();
            int seat = riders.get(r).seat;
            if (!riders.get(r).aboard) {
                return NONE;
            }
            return others(r).stream().min((a, b) -> {
                int order = law == 0 ? Math.abs(riders.get(a).seat - seat) - Math.abs(riders.get(b).seat - seat)
                    : law == 1 ? riders.get(b).looks - riders.get(a).looks
                    : Math.floorMod(a - r, size) - Math.floorMod(b - r, size);
                return order != 0 ? order : a - b;
            }).orElse(NONE);
        }

        int whom(int r) {
            return whom(r, riders.get(r).law);
        }

        void ride() {
            stop++;
            for (int r = 0; r < riders.size(); r++) {
                int q = whom(r);
                if (q >= 0) {
                    diary.add(new int[] {r, q});
                }
            }
        }

        /** Who would get down: the last in the diary who is aboard and thought of r, or whom r thought of. */
        int down(int r, boolean twice) {
            for (int i = diary.size() - 1; i >= 0 && riders.get(r).aboard; i--) {
                int[] entry = diary.get(i);
                int other = entry[twice ? 1 : 0];
                if (entry[twice ? 0 : 1] == r && riders.get(other).aboard) {
                    return other;
                }
            }
            return NONE;
        }

        int ring(int r, boolean twice) {
            int down = down(r, twice);
            if (down == NONE) {
                lonely++;
            } else {
                riders.get(down).aboard = false;
                riders.get(down).downAt = stop;
            }
            return down;
        }

        List<List<Integer>> rows(int set) {
            List<List<Integer>> rows = new ArrayList<>();
            tryRows(set, bits() & ~set, new ArrayList<>(), rows);
            return rows;
        }

        private void tryRows(int set, int rest, List<Integer> rung, List<List<Integer>> rows) {
            if (bits() == rest) {
                rows.add(new ArrayList<>(rung));
            }
            for (int r : others(-1)) {
                World next = copy();
                if (!rung.contains(r) && next.ring(r, false) != NONE && (next.bits() & rest) == rest) {
                    rung.add(r);
                    next.tryRows(set, rest, rung, rows);
                    rung.remove(rung.size() - 1);
                }
            }
        }
    }

    private World world = new World();
    private Deque<World> past = new ArrayDeque<>();
    private final World[] images = new World[2];
    private final List<Deque<World>> imagesPast = new ArrayList<>(Arrays.asList(null, null));
    private int line = 9;
    private final List<int[]> seen = new ArrayList<>();
    private final StringBuilder text = new StringBuilder();
    private long trace;

    int type(int c) {
        if (c < 0 || c > 255) {
            return BAD;
        }
        if (text.length() == 120) {
            return FULL;
        }
        return text.append((char) c).length();
    }

    int clear() {
        int had = text.length();
        text.setLength(0);
        return had;
    }

    /** By states: 0 ahead of an item, 1 to 3 a rider's numbers, 4 the line's, 5 the item's end. */
    int car() {
        int[] greatest = {0, 9, 9, 2, 20};
        List<Rider> riders = new ArrayList<>();
        int state = 0, items = 0, at = 0, told = 9;
        boolean lineTold = false;
        String all = text.toString();
        while (true) {
            while (at < all.length() && all.charAt(at) == ' ') {
                at++;
            }
            if (at == all.length()) {
                break;
            }
            String token = all.substring(at).replaceAll("(?s)^([a-z]+|[0-9]+|.).*", "$1");
            if (state == 0 && token.equals("r") && riders.size() < 6) {
                riders.add(new Rider());
                state = 1;
            } else if (state == 0 && token.equals("l") && !lineTold) {
                lineTold = true;
                state = 4;
            } else if (state >= 1 && state <= 4 && token.matches("0|[1-9][0-9]?")
                    && Integer.parseInt(token) <= greatest[state] && (state != 4 || !token.equals("0"))) {
                int number = Integer.parseInt(token);
                if (state == 4) {
                    told = number;
                } else if (state == 1) {
                    riders.get(riders.size() - 1).seat = number;
                } else if (state == 2) {
                    riders.get(riders.size() - 1).looks = number;
                } else {
                    riders.get(riders.size() - 1).law = number;
                }
                state = state >= 3 ? 5 : state + 1;
            } else if (state == 5 && token.equals(";")) {
                items++;
                state = 0;
            } else {
                return -10 - at;
            }
            at += token.length();
        }
        if (state != 0) {
            return -10 - all.length();
        }
        text.setLength(0);
        world = new World();
        world.riders = riders;
        line = told;
        past.clear();
        seen.clear();
        Arrays.fill(images, null);
        return items;
    }

    private boolean none(int... some) {
        for (int r : some) {
            if (r < 0 || r >= world.riders.size()) {
                return true;
            }
        }
        return some.length == 2 && some[0] == some[1];
    }

    private boolean down(int... some) {
        return Arrays.stream(some).anyMatch(r -> !world.riders.get(r).aboard);
    }

    int rider(int r, int what) {
        if (none(r) || what < 0 || what > 7) {
            return BAD;
        }
        Rider rider = world.riders.get(r);
        return new int[] {rider.seat, rider.looks, rider.law, rider.aboard ? 1 : 0, rider.downAt,
            world.whom(r), world.down(r, false), world.down(r, true)}[what];
    }

    int latest(int r, int q) {
        return none(r, q) ? BAD : world.latest(r, q);
    }

    private void remember() {
        past.addLast(world.copy());
        if (past.size() > 10) {
            past.removeFirst();
        }
    }

    int rides() {
        if (world.stop == 99) {
            return STATE;
        }
        remember();
        world.ride();
        return world.stop;
    }

    int thinks(int r, int q) {
        if (none(r, q)) {
            return BAD;
        }
        if (down(r, q)) {
            return STATE;
        }
        remember();
        world.diary.add(new int[] {r, q});
        return world.diary.size();
    }

    int rings(int r) {
        return ring(r, false);
    }

    int twice(int r) {
        return ring(r, true);
    }

    private int ring(int r, boolean twice) {
        if (none(r)) {
            return BAD;
        }
        if (down(r)) {
            return STATE;
        }
        remember();
        return world.ring(r, twice);
    }

    int seats(int r, int seat) {
        if (none(r) || seat < 0 || seat > 9) {
            return BAD;
        }
        int had = world.riders.get(r).seat;
        if (down(r) || had == seat) {
            return STATE;
        }
        remember();
        world.riders.get(r).seat = seat;
        return had;
    }

    int boards(int r) {
        if (none(r)) {
            return BAD;
        }
        if (!down(r)) {
            return STATE;
        }
        remember();
        world.riders.get(r).aboard = true;
        world.riders.get(r).downAt = NONE;
        return world.others(-1).size();
    }

    int undo() {
        if (past.isEmpty()) {
            return STATE;
        }
        world = past.removeLast();
        return past.size();
    }

    int now(int what) {
        if (what < 0 || what > 4) {
            return BAD;
        }
        return new int[] {world.stop, world.bits(), world.diary.size(), world.lonely, world.stop < line ? 0 : 1}[what];
    }

    private boolean noSet(int set) {
        return set < 0 || (set | world.bits()) != world.bits();
    }

    int row(int set, int i) {
        if (noSet(set) || i < -1 || i > 5) {
            return BAD;
        }
        List<List<Integer>> rows = world.rows(set);
        if (i == -1) {
            return rows.size();
        }
        return rows.isEmpty() || i >= rows.get(0).size() ? NONE : rows.get(0).get(i);
    }

    int soon(int set) {
        if (noSet(set)) {
            return BAD;
        }
        World later = world.copy();
        for (int stops = 0; stops <= 20; stops++) {
            if (!later.rows(set).isEmpty()) {
                return stops;
            }
            later.ride();
        }
        return NONE;
    }

    int odds(int r, int q, int x, int what) {
        if (none(r, q) || down(r, q) || x < 0 || x > 10 || what < 0 || what > 1) {
            return BAD;
        }
        List<Integer> others = world.others(r);
        BigInteger upper = BigInteger.ZERO;
        BigInteger lower = BigInteger.TEN.pow(others.size());
        for (int asleep = 0; asleep < 1 << others.size(); asleep++) {
            World fog = world.copy();
            BigInteger weight = BigInteger.ONE;
            for (int i = 0; i < others.size(); i++) {
                boolean sleeps = (asleep >> i & 1) == 1;
                fog.riders.get(others.get(i)).aboard = !sleeps;
                weight = weight.multiply(BigInteger.valueOf(sleeps ? x : 10 - x));
            }
            if (fog.down(r, false) == q) {
                upper = upper.add(weight);
            }
        }
        return (what == 0 ? upper : lower).divide(upper.gcd(lower)).intValueExact();
    }

    int circle(int r, int what) {
        if (none(r) || down(r) || what < 0 || what > 1) {
            return BAD;
        }
        List<Integer> way = new ArrayList<>();
        int at = r;
        while (at != NONE && !way.contains(at)) {
            way.add(at);
            at = world.whom(at);
        }
        if (at == NONE) {
            return NONE;
        }
        List<Integer> circle = way.subList(way.indexOf(at), way.size());
        return what == 0 ? circle.size() : circle.stream().min(Integer::compare).get();
    }

    int chair(int r, int q) {
        if (none(r, q) || down(r, q)) {
            return BAD;
        }
        World other = world.copy();
        for (int seat = 0; seat < 10; seat++) {
            other.riders.get(r).seat = seat;
            if (other.whom(r, 0) == q) {
                return seat;
            }
        }
        return NONE;
    }

    int saw(int r, int q) {
        if (none(r, q) || down(r, q)) {
            return BAD;
        }
        if (seen.size() == 6) {
            return FULL;
        }
        seen.add(new int[] {r, q});
        return seen.size();
    }

    int forget() {
        int had = seen.size();
        seen.clear();
        return had;
    }

    int laws(int r) {
        if (none(r)) {
            return BAD;
        }
        int bits = 0;
        for (int law = 0; law < 3; law++) {
            int thought = world.whom(r, law);
            boolean fits = seen.stream().filter(saw -> saw[0] == r).allMatch(saw -> saw[1] == thought);
            bits += fits ? 1 << law : 0;
        }
        return bits;
    }

    /** All ways are tried: a law for each who is aboard. */
    int likely() {
        List<Integer> aboard = world.others(-1);
        int ways = 0;
        for (int way = 0; way < Math.pow(3, aboard.size()); way++) {
            boolean fits = true;
            int rest = way;
            for (int r : aboard) {
                fits &= (laws(r) >> rest % 3 & 1) == 1;
                rest /= 3;
            }
            ways += fits ? 1 : 0;
        }
        return ways;
    }

    int mark(int kind, int r) {
        if (none(r) || kind < 0 || kind > 5) {
            return NO;
        }
        int[] above = {-1, 0, 0, 1, 2, 0};
        List<Integer> chain = new ArrayList<>();
        for (int k = kind; k >= 0; k = above[k]) {
            chain.add(0, k);
        }
        int mark = 0;
        for (int k : chain) {
            trace += (long) Math.pow(10, k);
            if (k == 0) {
                mark = world.riders.get(r).seat;
            } else if (k == 1) {
                mark += world.riders.get(r).looks;
            } else if (k == 2) {
                mark -= (int) world.diary.stream().filter(entry -> entry[1] == r).map(entry -> entry[0]).distinct().count();
            } else if (k == 3) {
                mark *= 2;
            } else {
                mark += k == 4 ? r : world.stop;
            }
        }
        return mark;
    }

    private static Deque<World> copy(Deque<World> past) {
        Deque<World> other = new ArrayDeque<>();
        past.forEach(world -> other.addLast(world.copy()));
        return other;
    }

    int keep(int image) {
        if (image != 0 && image != 1) {
            return BAD;
        }
        images[image] = world.copy();
        imagesPast.set(image, copy(past));
        return world.stop;
    }

    int back(int image) {
        if (image != 0 && image != 1) {
            return BAD;
        }
        if (images[image] == null) {
            return STATE;
        }
        world = images[image].copy();
        past = copy(imagesPast.get(image));
        return world.stop;
    }

    int count(int what) {
        if (what < 0 || what > 4) {
            return BAD;
        }
        return new int[] {world.riders.size(), line, seen.size(), past.size(), text.length()}[what];
    }

    long trace() {
        return trace;
    }
}
