import java.math.BigInteger;
import java.util.ArrayList;
import java.util.List;
import java.util.regex.Pattern;

/** The document written a second time, slowly and plainly, with nothing kept but what was told. */
final class PlainDesk {
    private static final String TEST = "(?:s|k|h|n[0-5])[<>=][0-9]{1,2}";
    private static final Pattern TEXT = Pattern.compile(TEST + "(?:[&|]" + TEST + ")*");
    private static final int[][] WAYS = {{0, -1}, {1, -1}, {1, 0}, {1, 1}, {0, 1}, {-1, 1}, {-1, 0}, {-1, -1}};
    private final List<int[]> things = new ArrayList<>();
    private final List<boolean[]> doings = new ArrayList<>();
    private final List<int[]> pictures = new ArrayList<>();
    private final List<boolean[]> clouds = new ArrayList<>();
    private final int[][] flights = new int[8][4];
    private final String[] uses = new String[5];
    private String text = "";

    private static boolean in(int n, int a, int b) { return a <= n && n <= b; }
    private boolean noThing(int t) { return !in(t, 0, things.size() - 1); }
    private boolean noPicture(int p) { return !in(p, 0, pictures.size() - 1); }

    int thing(int x, int y, int wide, int length, int height, int kind, int since, int till) {
        if (!in(x, 0, 11) || !in(y, 0, 7) || !in(wide, 1, 4) || !in(length, 1, 4) || !in(height, 1, 20)
            || !in(kind, 0, 5) || !in(since, 0, 99) || !in(till, since, 99)) return -2;
        if (x + wide > 12 || y + length > 8) return -2;
        if (things.size() == 12) return -4;
        things.add(new int[] {x, y, wide, length, height, kind, since, till, 8, 0, 0});
        doings.add(new boolean[100]);
        return things.size() - 1;
    }

    int of(int t, int what) {
        if (noThing(t)) return -1;
        return in(what, 0, 10) ? things.get(t)[what] : -2;
    }

    int set(int t, int what, int v) {
        if (noThing(t)) return -1;
        if (!in(what, 8, 10) || !in(v, 0, what == 8 ? 8 : 1)) return -2;
        int was = things.get(t)[what];
        things.get(t)[what] = v;
        return was;
    }

    private boolean lies(int t, int x, int y) {
        int[] n = things.get(t);
        return in(x, n[0], n[0] + n[2] - 1) && in(y, n[1], n[1] + n[3] - 1);
    }

    private int counts(int x, int y, int day) {
        int top = -6;
        for (int t = things.size() - 1; t >= 0; t--) {
            int[] n = things.get(t);
            if (!in(day, n[6], n[7]) || !lies(t, x, y)) continue;
            if (top < 0 || n[4] >= things.get(top)[4]) top = t;
        }
        return top;
    }

    int at(int cell, int day) {
        return in(cell, 0, 95) && in(day, 0, 99) ? counts(cell % 12, cell / 12, day) : -2;
    }

    int picture(int from, int to, int day, int sun, int slope) {
        if (!in(from, 0, 11) || !in(to, from, 11) || !in(day, 0, 99) || !in(sun, 0, 3) || !in(slope, 0, 20)) return -2;
        if (pictures.size() == 10) return -4;
        pictures.add(new int[] {from, to, day, sun, slope});
        clouds.add(new boolean[96]);
        return pictures.size() - 1;
    }

    int cloud(int p, int cell, boolean is) {
        if (noPicture(p)) return -1;
        if (!in(cell, 0, 95)) return -2;
        int was = clouds.get(p)[cell] ? 1 : 0;
        clouds.get(p)[cell] = is;
        return was;
    }

    private int look(int p, int cell) {
        int[] n = pictures.get(p);
        int x = cell % 12, y = cell / 12;
        if (!in(x, n[0], n[1]) || clouds.get(p)[cell]) return -6;
        int top = counts(x, y, n[2]);
        if (top >= 0 && things.get(top)[9] == 0) return 10 + things.get(top)[5];
        int[] way = WAYS[2 * n[3]];
        for (int d = 1; d < 12; d++) {
            int sx = x - d * way[0], sy = y - d * way[1];
            if (!in(sx, 0, 11) || !in(sy, 0, 7)) break;
            int caster = counts(sx, sy, n[2]);
            if (caster >= 0 && things.get(caster)[4] * n[4] / 10 >= d) return 1;
        }
        return 0;
    }

    int shows(int p, int cell) {
        if (noPicture(p)) return -1;
        return in(cell, 0, 95) ? look(p, cell) : -2;
    }

    int count(int p, int what) {
        if (noPicture(p)) return -1;
        if (!in(what, 0, 3)) return -2;
        int[] counts = new int[4];
        for (int c = 0; c < 96; c++) {
            int l = look(p, c);
            counts[l == -6 ? 0 : l >= 10 ? 3 : l + 1]++;
        }
        return counts[what];
    }

    int span(int p, int cells, int end) {
        if (noPicture(p)) return -1;
        if (!in(cells, 0, 11) || !in(end, 0, 1)) return -2;
        int least = -6, greatest = -6;
        for (int h = 1; h <= 20; h++) {
            if (h * pictures.get(p)[4] / 10 != cells) continue;
            if (least < 0) least = h;
            greatest = h;
        }
        return end == 0 ? least : greatest;
    }

    int changed(int a, int b, int what) {
        if (noPicture(a) || noPicture(b) || a == b) return -1;
        if (!in(what, 0, 2)) return -2;
        int many = 0, hour = 0, first = -6;
        for (int c = 95; c >= 0; c--) {
            int l = look(a, c), r = look(b, c);
            if (l == -6 || r == -6 || l == r) continue;
            many++;
            first = c;
            if (l < 2 && r < 2) hour++;
        }
        return what == 0 ? many : what == 1 ? hour : first;
    }

    int say(int sign) {
        if (!in(sign, 33, 126)) return -2;
        if (text.length() == 40) return -4;
        text += (char) sign;
        return text.length();
    }

    int wipe() {
        int was = text.length();
        text = "";
        return was;
    }

    /** Whether a text could begin so: some end of at most four signs makes it one. */
    private static boolean canGoOn(String start) {
        String[] ends = {"", "1", "=1", "0=1", "s=1"};
        for (String end : ends) if (TEXT.matcher(start + end).matches()) return true;
        return false;
    }

    int fault() {
        if (TEXT.matcher(text).matches()) return -6;
        for (int i = 0; i < text.length(); i++) if (!canGoOn(text.substring(0, i + 1))) return i;
        return text.length();
    }

    int use(int u) {
        if (!in(u, 0, 4)) return -1;
        if (fault() != -6) return -5;
        int answer = uses[u] == null ? 1 : 0;
        uses[u] = text;
        text = "";
        return answer;
    }

    private int factOf(int t, int day, int what) {
        int[] n = things.get(t);
        int seen = 0, nearest = 1000;
        boolean gap = false;
        for (int c = 0; c < 96; c++) {
            boolean covered = false, own = false;
            int distance = Math.abs(c % 12 - n[0]) + Math.abs(c / 12 - n[1]);
            for (int p = 0; p < pictures.size(); p++) {
                if (pictures.get(p)[2] > day) continue;
                int l = look(p, c);
                if (l == -6) continue;
                covered = true;
                if (l < 10) continue;
                if (counts(c % 12, c / 12, pictures.get(p)[2]) == t) own = true;
                else if (l - 10 == what - 3) nearest = Math.min(nearest, distance);
            }
            if (own) seen++;
            if (!covered && distance <= 5) gap = true;
        }
        if (what == 0) return seen;
        if (what <= 2) return seen == 0 ? -6 : n[what == 1 ? 5 : 4];
        return nearest < 1000 ? nearest : gap ? -6 : 99;
    }

    int fact(int t, int day, int what) {
        if (noThing(t)) return -1;
        return in(day, 0, 99) && in(what, 0, 8) ? factOf(t, day, what) : -2;
    }

    private int fits(int u, int t, int day) {
        int whole = 0;
        for (String both : uses[u].split("\\|")) {
            int worst = 2;
            for (String test : both.split("&")) {
                int at = test.charAt(0) == 'n' ? 2 : 1;
                int known = factOf(t, day, at == 2 ? 3 + test.charAt(1) - '0' : "skh".indexOf(test.charAt(0)));
                int number = Integer.parseInt(test.substring(at + 1));
                int sign = Integer.compare(known, number);
                boolean so = test.charAt(at) == '<' ? sign < 0 : test.charAt(at) == '>' ? sign > 0 : sign == 0;
                worst = Math.min(worst, known == -6 ? 1 : so ? 2 : 0);
            }
            whole = Math.max(whole, worst);
        }
        return whole;
    }

    private boolean noUse(int u) { return !in(u, 0, 4) || uses[u] == null; }

    int fit(int u, int t, int day) {
        if (noUse(u) || noThing(t)) return -1;
        return in(day, 0, 99) ? fits(u, t, day) : -2;
    }

    int could(int u, int t) {
        if (noUse(u) || noThing(t)) return -1;
        for (int day = 0; day < 100; day++) if (fits(u, t, day) == 2) return day;
        return -6;
    }

    int all(int u, int day, int how) {
        if (noUse(u)) return -1;
        if (!in(day, 0, 99) || !in(how, 0, 2)) return -2;
        int bits = 0;
        for (int t = 0; t < things.size(); t++) if (fits(u, t, day) == how) bits += 1 << t;
        return bits;
    }

    private boolean isOnLine(int t, int way, int cell) {
        int[] n = things.get(t);
        for (int d = 1; d < 12; d++) {
            int x = n[0] + d * WAYS[way][0], y = n[1] + d * WAYS[way][1];
            if (in(x, 0, 11) && in(y, 0, 7) && 12 * y + x == cell && !lies(t, x, y)) return true;
        }
        return false;
    }

    private boolean faces(int t, int day) {
        int[] n = things.get(t);
        return n[8] < 8 && in(day, n[6], n[7]);
    }

    int meet(int day, int what) {
        if (!in(day, 0, 99) || !in(what, 0, 1)) return -2;
        int best = -6, most = 0;
        for (int c = 0; c < 96; c++) {
            int many = 0;
            for (int t = 0; t < things.size(); t++) if (faces(t, day) && isOnLine(t, things.get(t)[8], c)) many++;
            if (many > most) {
                most = many;
                best = c;
            }
        }
        return what == 0 ? best : most;
    }

    private static long part(BigInteger upper, BigInteger lower, int part) {
        BigInteger divisor = upper.gcd(lower);
        return (part == 0 ? upper : lower).divide(divisor).longValueExact();
    }

    long chance(int day, int part) {
        if (!in(day, 0, 99) || !in(part, 0, 1)) return PictureDesk.LOST - 2;
        int cell = meet(day, 0);
        if (cell < 0) return PictureDesk.LOST - 3;
        long upper = 1, lower = 1;
        for (int t = 0; t < things.size(); t++) {
            if (!faces(t, day)) continue;
            int ways = 0;
            for (int way = 0; way < 8; way++) if (isOnLine(t, way, cell)) ways++;
            upper *= ways;
            lower *= 8;
        }
        return part(BigInteger.valueOf(upper), BigInteger.valueOf(lower), part);
    }

    int did(int t, int day, boolean is) {
        if (noThing(t)) return -1;
        if (!in(day, 0, 99)) return -2;
        int was = doings.get(t)[day] ? 1 : 0;
        doings.get(t)[day] = is;
        return was;
    }

    long decoy(int t, int from, int to, int q, int part) {
        if (noThing(t)) return PictureDesk.LOST - 1;
        if (!in(from, 0, 99) || !in(to, from, 99) || !in(q, 1, 19) || !in(part, 0, 1)) return PictureDesk.LOST - 2;
        int without = 0;
        for (int day = from; day <= to; day++) if (!doings.get(t)[day]) without++;
        if (without > 12) return PictureDesk.LOST - 2;
        return part(BigInteger.valueOf(20 - q).pow(without), BigInteger.valueOf(20).pow(without), part);
    }

    int sure(int q, int s) {
        if (!in(q, 1, 19) || !in(s, 0, 100)) return -2;
        for (int n = 0; n <= 12; n++) {
            BigInteger odds = BigInteger.valueOf(20 - q).pow(n).multiply(BigInteger.valueOf(100));
            if (odds.compareTo(BigInteger.valueOf(20).pow(n).multiply(BigInteger.valueOf(s))) <= 0) return n;
        }
        return -6;
    }

    int flight(int f, int from, int to, int weather, int risk) {
        if (!in(f, 0, 7)) return -1;
        if (!in(from, 0, 11) || !in(to, from, 11) || !in(weather, 0, 10) || !in(risk, 0, 100)) return -2;
        flights[f] = new int[] {from, to, weather, risk};
        return 1;
    }

    /** In parts of ten to the eighth. */
    private long weight(int set) {
        long sum = 0;
        for (int[] n : things) {
            if (n[10] == 0) continue;
            long missing = 1;
            for (int f = 0; f < 8; f++) {
                boolean helps = (set >> f) % 2 == 1 && in(n[0], flights[f][0], flights[f][1]);
                missing *= helps ? 10 - flights[f][2] : 10;
            }
            sum += 100000000 - missing;
        }
        return sum;
    }

    long worth(int set, int part) {
        if (!in(set, 0, 255) || !in(part, 0, 1)) return PictureDesk.LOST - 2;
        return part(BigInteger.valueOf(weight(set)), BigInteger.valueOf(100000000), part);
    }

    private int risk(int set) {
        int sum = 0;
        for (int f = 0; f < 8; f++) sum += (set >> f) % 2 * flights[f][3];
        return sum;
    }

    int best(int purse, int what) {
        if (!in(purse, 0, 800) || !in(what, 0, 1)) return -2;
        int best = -1;
        for (int set = 255; set >= 0; set--) {
            if (risk(set) > purse) continue;
            if (best < 0 || weight(set) > weight(best) || weight(set) == weight(best) && risk(set) <= risk(best)) best = set;
        }
        return what == 0 ? best : risk(best);
    }

    private static BigInteger choose(int n, int k) {
        if (k < 0 || k > n) return BigInteger.ZERO;
        return k == 0 || k == n ? BigInteger.ONE
            : choose(n - 1, k - 1).multiply(BigInteger.valueOf(n)).divide(BigInteger.valueOf(k));
    }

    long lean(int a, int n, int b, int m, int part) {
        if (!in(n, 1, 20) || !in(m, 1, 20) || !in(a, 0, n) || !in(b, 0, m) || !in(part, 0, 1)) return PictureDesk.LOST - 2;
        BigInteger sum = BigInteger.ZERO;
        for (int i = a; i <= n; i++) sum = sum.add(choose(n, i).multiply(choose(m, a + b - i)));
        return part(sum, choose(n + m, a + b), part);
    }

    int told(int what) {
        int bits = 0;
        for (int u = 0; u < 5; u++) if (uses[u] != null) bits += 1 << u;
        int[] answers = {things.size(), pictures.size(), text.length(), bits};
        return in(what, 0, 3) ? answers[what] : -2;
    }
}
