import java.util.ArrayList;
import java.util.Arrays;
import java.util.List;
import java.util.Random;
import java.util.TreeMap;

/** Long drawn runs, the same ones each time, against a second and plainer writing of the document. */
public final class ModelTest {
    private static final int RUNS = 1500;
    private static final int CALLS = 300;
    private static final int REFUSED = Runs.THROWN;

    /** The shore in lists and maps, gone through from the begin for every single question. */
    private static final class Model {
        int n = 6;
        int k = 4;
        boolean touched = false;
        int gone = 0;
        final int[] sand = new int[12];
        final int[] wall = new int[12];
        final int[] mark = new int[12];
        final int[] feed = {100, 100};
        final TreeMap<Integer, int[]> groynes = new TreeMap<>();
        final TreeMap<Integer, Integer> mouths = new TreeMap<>();
        final List<int[]> waves = new ArrayList<>();
        final List<int[]> dredged = new ArrayList<>();
        final List<int[]> works = new ArrayList<>();
        final List<int[]> surveys = new ArrayList<>();

        Model() {
            Arrays.fill(sand, 1000);
        }

        Gone through(int weeks, int number, int leftAway, int worksDone) {
            Gone g = new Gone(this, number, leftAway, worksDone);
            for (int week = 1; week <= weeks; week++) {
                g.week(week);
            }
            return g;
        }

        Gone now() {
            return through(gone, k, 0, 0);
        }
    }

    private static final class Gone {
        final Model m;
        final int number;
        final long[] sand;
        final long[] sea = new long[12];
        final long[] scour = new long[12];
        final long[] bar = new long[13];
        long[] passed = new long[13];
        final TreeMap<Integer, int[]> groynes = new TreeMap<>();
        final List<long[]> linesBehind = new ArrayList<>();

        Gone(Model m, int number, int leftAway, int worksDone) {
            this.m = m;
            this.number = number;
            sand = new long[m.n];
            for (int i = 0; i < m.n; i++) {
                sand[i] = m.sand[i];
            }
            for (int border : m.groynes.keySet()) {
                if ((leftAway >> border & 1) == 0) {
                    groynes.put(border, m.groynes.get(border).clone());
                }
            }
            for (int i = 0; i < m.works.size(); i++) {
                int[] work = m.works.get(i);
                if ((worksDone >> i & 1) == 1 && work[0] == 0) {
                    bring(work[1], work[2]);
                } else if ((worksDone >> i & 1) == 1 && groynes.containsKey(work[1])) {
                    groynes.get(work[1])[0] = work[2];
                }
            }
        }

        void bring(int field, long units) {
            sand[field] = Math.min(99999, sand[field] + units);
        }

        long line(int field) {
            return sand[field] / 10;
        }

        void week(int week) {
            int height = m.waves.get(week - 1)[0];
            int side = m.waves.get(week - 1)[1];
            passed = new long[13];
            if (side < 2) {
                passing(height, side == 0 ? 1 : -1);
            }
            for (int i = 0; i < m.n; i++) {
                if (height >= 7) {
                    long lost = Math.max(0, Math.min(3 * height, sand[i] - 10 * m.wall[i]));
                    sand[i] -= lost;
                    sea[i] += lost;
                }
                if (height <= 2) {
                    long back = sea[i] / 4 + (sea[i] % 4 == 0 ? 0 : 1);
                    sea[i] -= back;
                    bring(i, back);
                }
            }
            for (int[] d : m.dredged) {
                if (d[3] == week) {
                    long units = Math.min(d[1], bar[d[0]]);
                    bar[d[0]] -= units;
                    bring(d[2], units);
                }
            }
            long[] lines = new long[m.n];
            for (int i = 0; i < m.n; i++) {
                lines[i] = line(i);
            }
            linesBehind.add(lines);
        }

        /** Goes along the row as the waves do, each field giving to the next one or to the end. */
        void passing(int height, int step) {
            long[] after = sand.clone();
            int first = step > 0 ? 0 : m.n - 1;
            long fed = number * height * m.feed[step > 0 ? 0 : 1] / 100;
            after[first] += fed;
            passed[step > 0 ? 0 : m.n] = step * fed;
            for (int u = first; u >= 0 && u < m.n; u += step) {
                int d = u + step;
                int border = Math.max(u, d);
                boolean atEnd = d < 0 || d >= m.n;
                long units = number * height;
                if (!atEnd) {
                    long slope = Math.max(-9, Math.min(9, line(u) - line(d)));
                    units = Math.max(0, units + height * slope / 3);
                    int[] groyne = groynes.get(border);
                    if (groyne != null && line(u) < groyne[0]) {
                        units = units * groyne[1] / 100;
                    }
                }
                units = Math.min(units, sand[u]);
                long keptBack = Math.max(0, units - Math.max(0, sand[u] - 10 * m.wall[u]));
                scour[u] += keptBack;
                units -= keptBack;
                passed[border] = step * units;
                after[u] -= units;
                if (!atEnd) {
                    long toBar = m.mouths.containsKey(border) ? units * m.mouths.get(border) / 100 : 0;
                    bar[border] += toBar;
                    after[d] += units - toBar;
                }
            }
            for (int i = 0; i < m.n; i++) {
                sand[i] = Math.min(99999, after[i]);
            }
        }
    }

    private static boolean in(int value, int least, int most) {
        return least <= value && value <= most;
    }

    private static boolean onlyGroynes(Model m, int set) {
        for (int bit = 0; bit < 32; bit++) {
            if ((set >>> bit & 1) == 1 && !m.groynes.containsKey(bit)) {
                return false;
            }
        }
        return true;
    }

    private static int share(Model m, int border, int set, int field) {
        if (!in(field, 0, m.n - 1) || !onlyGroynes(m, set) || Integer.bitCount(set) > 4) {
            return REFUSED;
        }
        if (!in(border, 0, m.n) || (set >> border & 1) == 0) {
            return REFUSED;
        }
        return allOrders(m, border, set, 0, field);
    }

    /** Really leaves them away one by one in every order. */
    private static int allOrders(Model m, int border, int set, int away, int field) {
        int sum = 0;
        for (int next = 0; next <= m.n; next++) {
            if (((set & ~away) >> next & 1) == 0) {
                continue;
            }
            if (next == border) {
                long grown = m.through(m.gone, m.k, away | 1 << next, 0).line(field) - m.through(m.gone, m.k, away, 0).line(field);
                int rest = Integer.bitCount(set & ~away) - 1;
                sum += grown * (rest == 3 ? 6 : rest == 2 ? 2 : 1);
            } else {
                sum += allOrders(m, border, set, away | 1 << next, field);
            }
        }
        return sum;
    }

    private static int cheapest(Model m) {
        int best = -1;
        long bestPrice = Long.MAX_VALUE;
        for (int set = (1 << m.works.size()) - 1; set >= 0; set--) {
            long price = 0;
            for (int i = 0; i < m.works.size(); i++) {
                price += (set >> i & 1) * m.works.get(i)[3];
            }
            boolean kept = true;
            for (long[] lines : m.through(m.waves.size(), m.k, 0, set).linesBehind) {
                for (int i = 0; i < m.n; i++) {
                    kept &= lines[i] >= m.mark[i];
                }
            }
            if (kept && price <= bestPrice) {
                best = set;
                bestPrice = price;
            }
        }
        return best;
    }

    private static int fits(Model m) {
        int bits = 0;
        for (int k = 1; k <= 9; k++) {
            List<long[]> lines = m.through(m.waves.size(), k, 0, 0).linesBehind;
            boolean all = true;
            for (int[] s : m.surveys) {
                if (s[1] <= lines.size()) {
                    long line = lines.get(s[1] - 1)[s[0]];
                    all &= s[2] <= line && line <= s[3];
                }
            }
            bits |= all ? 1 << (k - 1) : 0;
        }
        return bits;
    }

    private static int tell(Model m, String call, int[] a) {
        boolean early = m.gone == 0;
        boolean field = in(a[0], 0, m.n - 1);
        boolean inner = in(a[0], 1, m.n - 1);
        boolean fine;
        switch (call) {
            case "sand":
                fine = early && field && in(a[1], 0, 99999);
                if (fine) m.sand[a[0]] = a[1];
                break;
            case "groyne":
                fine = early && inner && in(a[1], 0, 999) && in(a[2], 0, 100);
                if (fine) {
                    m.mouths.remove(a[0]);
                    m.groynes.remove(a[0]);
                    if (a[1] > 0) m.groynes.put(a[0], new int[] {a[1], a[2]});
                }
                break;
            case "mouth":
                fine = early && inner && in(a[1], 0, 100);
                if (fine) {
                    m.groynes.remove(a[0]);
                    m.mouths.put(a[0], a[1]);
                }
                break;
            case "wall":
                fine = early && field && in(a[1], 0, 999);
                if (fine) m.wall[a[0]] = a[1];
                break;
            case "feed":
                fine = early && in(a[0], 0, 1) && in(a[1], 0, 200);
                if (fine) m.feed[a[0]] = a[1];
                break;
            case "number":
                fine = early && in(a[0], 1, 9);
                if (fine) m.k = a[0];
                break;
            case "mark":
                fine = field && in(a[1], 0, 9999);
                if (fine) m.mark[a[0]] = a[1];
                break;
            default:
                fine = in(a[0], 2, 12) && !m.touched;
                if (fine) m.n = a[0];
                return fine ? 1 : 0;
        }
        m.touched |= fine;
        return fine ? 1 : 0;
    }

    private static int add(Model m, List<int[]> list, int most, boolean fine, int... entry) {
        if (!fine || list.size() == most) {
            return -1;
        }
        list.add(entry);
        m.touched = true;
        return list.size();
    }

    private static int due(Model m, String call, int[] a) {
        boolean field = in(a[0], 0, m.n - 1);
        switch (call) {
            case "wave":
                return add(m, m.waves, 120, in(a[0], 0, 9) && in(a[1], 0, 2), a[0], a[1]);
            case "weeks":
                if (!in(a[0], 0, 120) || m.gone + a[0] > m.waves.size()) return -1;
                m.gone += a[0];
                return m.gone;
            case "dredge": {
                boolean fine = m.mouths.containsKey(a[0]) && in(a[1], 1, 9999) && in(a[2], 0, m.n - 1);
                long there = fine ? m.now().bar[a[0]] : 0;
                return add(m, m.dredged, 20, fine, a[0], a[1], a[2], m.gone) < 0 ? -1 : (int) Math.min(a[1], there);
            }
            case "line":
                return field ? (int) m.now().line(a[0]) : REFUSED;
            case "look":
                if (!field || !in(a[1], 0, 2)) return -1;
                return (int) (a[1] == 0 ? m.now().sand : a[1] == 1 ? m.now().sea : m.now().scour)[a[0]];
            case "border":
                return border(m, a[0], a[1]);
            case "without":
                return field(m, a[1]) && onlyGroynes(m, a[0]) ? (int) m.through(m.gone, m.k, a[0], 0).line(a[1]) : -1;
            case "share":
                return share(m, a[0], a[1], a[2]);
            case "work": {
                boolean brings = a[0] == 0 && field(m, a[1]) && in(a[2], 1, 9999);
                boolean changes = a[0] == 1 && m.groynes.containsKey(a[1]) && in(a[2], 1, 999);
                int size = add(m, m.works, 6, (brings || changes) && in(a[3], 1, 999), a[0], a[1], a[2], a[3]);
                return size < 0 ? -1 : size - 1;
            }
            case "works":
                return cheapest(m);
            case "survey": {
                boolean fine = field && in(a[1], 1, 120) && in(a[2], 0, 9999) && in(a[3], 0, 9999) && a[2] <= a[3];
                return add(m, m.surveys, 20, fine, a[0], a[1], a[2], a[3]);
            }
            case "fits":
                return fits(m);
            case "count":
                return count(m, a[0]);
            default:
                return tell(m, call, a);
        }
    }

    private static boolean field(Model m, int field) {
        return in(field, 0, m.n - 1);
    }

    private static int border(Model m, int border, int what) {
        if (!in(border, 0, m.n)) return what == 3 ? -100000 : -1;
        if (what == 3) return (int) m.now().passed[border];
        int[] groyne = m.groynes.get(border);
        Integer mouth = m.mouths.get(border);
        if (what == 0) return groyne != null ? 1 : mouth != null ? 2 : 0;
        if (what == 1) return groyne != null ? groyne[0] : mouth != null ? mouth : -1;
        if (what == 2) return groyne != null ? groyne[1] : mouth != null ? (int) m.now().bar[border] : -1;
        return -1;
    }

    private static int count(Model m, int what) {
        Gone g = m.now();
        long all = Arrays.stream(g.sand).sum() + Arrays.stream(g.sea).sum() + Arrays.stream(g.bar).sum();
        int[] counts = {m.n, m.waves.size(), m.gone, m.works.size(), m.surveys.size(), m.dredged.size(), (int) all};
        return in(what, 0, 6) ? counts[what] : -1;
    }

    /** Draws calls that are mostly good ones, by what the model holds. */
    private static final class Draw {
        final Random random;
        final Model m;

        Draw(long seed, Model m) {
            random = new Random(seed);
            this.m = m;
        }

        int from(int least, int most) {
            int odd = random.nextInt(60);
            if (odd == 0) return random.nextInt();
            if (odd == 1) return random.nextBoolean() ? least - 1 : most + 1;
            if (odd == 2) return random.nextBoolean() ? least : most;
            return least + random.nextInt(most - least + 1);
        }

        int field() {
            return from(0, m.n - 1);
        }

        int groyneSet(int most) {
            int set = 0;
            for (int border : m.groynes.keySet()) {
                if (random.nextInt(3) > 0 && Integer.bitCount(set) < most) set |= 1 << border;
            }
            return random.nextInt(30) == 0 ? from(0, 1 << m.n) : set;
        }

        int oneOf(Iterable<Integer> borders) {
            int chosen = from(1, m.n - 1);
            for (int border : borders) {
                if (random.nextInt(3) > 0) chosen = border;
            }
            return chosen;
        }

        int nearLine(int aside) {
            return (int) m.now().line(random.nextInt(m.n)) + from(-aside, aside);
        }

        int sands() {
            switch (random.nextInt(6)) {
                case 0: return from(0, 120);
                case 1: return from(99900, 99999);
                default: return from(900, 1200);
            }
        }

        int height() {
            return random.nextInt(8) == 0 ? from(0, 2) : from(0, 9);
        }

        int[] args(String call) {
            switch (call) {
                case "fields": return new int[] {from(2, 12)};
                case "sand": return new int[] {field(), sands()};
                case "groyne": return new int[] {from(1, m.n - 1), random.nextInt(3) > 0 ? from(85, 130) : from(0, 999), from(0, 100)};
                case "mouth": return new int[] {from(1, m.n - 1), from(0, 100)};
                case "wall": return new int[] {field(), random.nextInt(3) > 0 ? from(85, 110) : from(0, 999)};
                case "feed": return new int[] {from(0, 1), from(0, 200)};
                case "number": return new int[] {from(1, 9)};
                case "wave": return new int[] {height(), from(0, 2)};
                case "weeks": return new int[] {from(0, Math.min(6, Math.max(1, m.waves.size() - m.gone)))};
                case "dredge": return new int[] {oneOf(m.mouths.keySet()), random.nextBoolean() ? from(1, 60) : from(1, 9999), field()};
                case "line": return new int[] {field()};
                case "look": return new int[] {field(), from(0, 2)};
                case "border": return new int[] {from(0, m.n), from(0, 3)};
                case "without": return new int[] {groyneSet(12), field()};
                case "share": {
                    int set = groyneSet(random.nextInt(10) == 0 ? 12 : 4);
                    int own = set != 0 && random.nextInt(12) > 0 ? Integer.numberOfTrailingZeros(set) : from(0, m.n);
                    return new int[] {own, set, field()};
                }
                case "work": {
                    int kind = from(0, 1);
                    if (kind == 1) return new int[] {kind, oneOf(m.groynes.keySet()), from(1, random.nextBoolean() ? 130 : 999), from(1, 9)};
                    return new int[] {kind, field(), from(1, random.nextBoolean() ? 80 : 9999), from(1, random.nextBoolean() ? 9 : 999)};
                }
                case "mark": return new int[] {field(), random.nextBoolean() ? nearLine(6) : from(0, 60)};
                case "survey": {
                    int from = nearLine(4);
                    int week = random.nextInt(3) > 0 ? from(1, Math.max(1, m.waves.size())) : from(1, 120);
                    return new int[] {field(), week, Math.max(-1, from - 4), from + from(0, 8)};
                }
                case "count": return new int[] {from(0, 6)};
                default: return new int[] {0};
            }
        }
    }

    private static final String[] BUILD = {
        "fields", "sand", "sand", "groyne", "groyne", "groyne", "mouth", "mouth", "wall", "feed", "number", "wave"};
    private static final String[] LATER = {
        "fields", "sand", "groyne", "mouth", "wall", "feed", "number", "wave", "wave", "wave", "wave", "wave", "wave",
        "weeks", "weeks", "weeks", "dredge", "dredge", "line", "look", "look", "look", "border", "border", "border",
        "without", "share", "work", "mark", "works", "survey", "fits", "count"};

    public static void main(String[] args) {
        for (int run = 0; run < RUNS; run++) {
            ShoreFields x = new ShoreFields();
            Model m = new Model();
            Draw draw = new Draw(run, m);
            StringBuilder calls = new StringBuilder();
            int building = draw.random.nextInt(40);
            for (int i = 0; i < CALLS; i++) {
                String[] names = i < building ? BUILD : LATER;
                String call = i == 0 ? "fields" : names[draw.random.nextInt(names.length)];
                int[] a = Arrays.copyOf(draw.args(call), 4);
                calls.append("\n  ").append(call).append(Arrays.toString(a));
                int got = Runs.answer(x, call, a);
                int want = due(m, call, a);
                if (got != want) {
                    System.out.println("run " + run + ":" + calls + " answered " + got + ", due is " + want);
                    System.exit(1);
                }
            }
        }
        System.out.println("all answers are as the model's");
    }
}
