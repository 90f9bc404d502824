public final class PictureDesk {
    public static final int NONE = -6, UNKNOWN = -1, OUTSIDE = -2, STATE = -3, FULL = -4, NO = -5;
    public static final long LOST = -1000000000000000000L;

    private static final int COLUMNS = 12, ROWS = 8, CELLS = 96, DAYS = 100;
    private static final int MOST_THINGS = 12, MOST_PICTURES = 10;
    private static final int X = 0, Y = 1, WIDE = 2, LONG = 3, HEIGHT = 4, KIND = 5, SINCE = 6, TILL = 7;
    private static final int FACING = 8, NETTED = 9, WANTED = 10;
    private static final int WAYS = 8, NO_FACING = 8, TALLEST = 20, KINDS = 6;
    private static final int GROUND = 0, SHADOW = 1, FIRST_KIND = 10;
    private static final int NOT_SO = 0, OPEN = 1, SO = 2;
    private static final int MOST_WITHOUT = 12;

    // The ways go round from the north; the four suns are every second one of them.
    private static final int[] EAST_STEP = {0, 1, 1, 1, 0, -1, -1, -1};
    private static final int[] SOUTH_STEP = {-1, -1, 0, 1, 1, 1, 0, -1};

    private final Land land;
    private final Album album;
    private final Facts facts;
    private final Uses uses;
    private final Lines lines;
    private final Flights flights;

    public PictureDesk() {
        land = new Land();
        album = new Album();
        facts = new Facts();
        uses = new Uses();
        lines = new Lines();
        flights = new Flights();
    }

    // ---- 1 things

    public int thing(int x, int y, int wide, int length, int height, int kind, int since, int till) {
        if (!isOnLand(x, y) || !isWithin(wide, 1, 4) || !isWithin(length, 1, 4)) return OUTSIDE;
        if (!isOnLand(x + wide - 1, y + length - 1)) return OUTSIDE;
        if (!isWithin(height, 1, TALLEST) || !isWithin(kind, 0, KINDS - 1)) return OUTSIDE;
        if (!isDay(since) || !isDay(till) || since > till) return OUTSIDE;
        if (land.isFull()) return FULL;
        int[] marks = {x, y, wide, length, height, kind, since, till, NO_FACING, 0, 0};
        int number = land.add(marks);
        album.develop(land);
        return number;
    }

    public int of(int thing, int what) {
        Thing found = land.find(thing);
        if (found == null) return UNKNOWN;
        if (!isWithin(what, X, WANTED)) return OUTSIDE;
        return found.mark(what);
    }

    public int set(int thing, int what, int v) {
        Thing found = land.find(thing);
        if (found == null) return UNKNOWN;
        if (!isWithin(what, FACING, WANTED)) return OUTSIDE;
        if (!isWithin(v, 0, what == FACING ? NO_FACING : 1)) return OUTSIDE;
        int before = found.mark(what);
        found.remark(what, v);
        if (what == NETTED && before != v) album.develop(land);
        return before;
    }

    public int at(int cell, int day) {
        if (!isCell(cell) || !isDay(day)) return OUTSIDE;
        return land.counting(cell, day);
    }

    // ---- 2 pictures

    public int picture(int from, int to, int day, int sun, int slope) {
        if (!isStrip(from, to) || !isDay(day)) return OUTSIDE;
        if (!isWithin(sun, 0, 3) || !isWithin(slope, 0, 20)) return OUTSIDE;
        if (album.isFull()) return FULL;
        Picture taken = new Picture(from, to, day, sun, slope);
        taken.develop(land);
        return album.add(taken);
    }

    public int cloud(int picture, int cell, boolean is) {
        Picture found = album.find(picture);
        if (found == null) return UNKNOWN;
        if (!isCell(cell)) return OUTSIDE;
        return found.tickCloud(cell, is) ? 1 : 0;
    }

    public int shows(int picture, int cell) {
        Picture found = album.find(picture);
        if (found == null) return UNKNOWN;
        if (!isCell(cell)) return OUTSIDE;
        return found.look(cell);
    }

    public int count(int picture, int what) {
        Picture found = album.find(picture);
        if (found == null) return UNKNOWN;
        if (!isWithin(what, 0, 3)) return OUTSIDE;
        return found.tally(what);
    }

    public int span(int picture, int cells, int end) {
        Picture found = album.find(picture);
        if (found == null) return UNKNOWN;
        if (!isWithin(cells, 0, 11) || !isWithin(end, 0, 1)) return OUTSIDE;
        return end == 0 ? found.leastHeight(cells) : found.greatestHeight(cells);
    }

    public int changed(int a, int b, int what) {
        Picture first = album.find(a);
        Picture second = album.find(b);
        if (first == null || second == null || a == b) return UNKNOWN;
        if (!isWithin(what, 0, 2)) return OUTSIDE;
        if (what == 2) return first.firstUnlike(second);
        return what == 0 ? first.unlike(second) : first.unlikeByHour(second);
    }

    // ---- 3 uses

    public int say(int sign) {
        if (!isWithin(sign, 33, 126)) return OUTSIDE;
        return uses.append(sign);
    }

    public int wipe() {
        return uses.clear();
    }

    public int fault() {
        return uses.firstFault();
    }

    public int use(int use) {
        if (!uses.isPlace(use)) return UNKNOWN;
        if (uses.firstFault() != NONE) return NO;
        int isNew = uses.has(use) ? 0 : 1;
        uses.keep(use);
        return isNew;
    }

    public int fact(int thing, int day, int what) {
        Thing found = land.find(thing);
        if (found == null) return UNKNOWN;
        if (!isDay(day) || !isWithin(what, 0, Facts.MANY - 1)) return OUTSIDE;
        facts.learn(found, album, day);
        return facts.known(what);
    }

    public int fit(int use, int thing, int day) {
        Thing found = land.find(thing);
        if (!uses.has(use) || found == null) return UNKNOWN;
        if (!isDay(day)) return OUTSIDE;
        return judge(use, found, day);
    }

    public int could(int use, int thing) {
        Thing found = land.find(thing);
        if (!uses.has(use) || found == null) return UNKNOWN;
        for (int day = 0; day < DAYS; day++) {
            // Facts change with a new picture alone, so the other days tell nothing.
            boolean isNews = day == 0 || album.hasDay(day);
            if (isNews && judge(use, found, day) == SO) return day;
        }
        return NONE;
    }

    public int all(int use, int day, int how) {
        if (!uses.has(use)) return UNKNOWN;
        if (!isDay(day) || !isWithin(how, NOT_SO, SO)) return OUTSIDE;
        int bits = 0;
        for (int i = 0; i < land.size(); i++) {
            Thing each = land.find(i);
            if (each != null && judge(use, each, day) == how) bits |= 1 << i;
        }
        return bits;
    }

    // ---- 4 lines, doings

    public int meet(int day, int what) {
        if (!isDay(day) || !isWithin(what, 0, 1)) return OUTSIDE;
        lines.draw(land, day);
        return what == 0 ? lines.cell() : lines.most();
    }

    public long chance(int day, int part) {
        if (!isDay(day) || !isPart(part)) return LOST + OUTSIDE;
        lines.draw(land, day);
        if (lines.cell() == NONE) return LOST + STATE;
        long upper = lines.allMayCross(land, day) ? 1 : 0;
        return partOf(upper, lines.lots(land, day), part);
    }

    public int did(int thing, int day, boolean is) {
        Thing found = land.find(thing);
        if (found == null) return UNKNOWN;
        if (!isDay(day)) return OUTSIDE;
        return found.tickDoing(day, is) ? 1 : 0;
    }

    public long decoy(int thing, int from, int to, int q, int part) {
        Thing found = land.find(thing);
        if (found == null) return LOST + UNKNOWN;
        if (!isDay(from) || !isDay(to) || from > to) return LOST + OUTSIDE;
        if (!isWithin(q, 1, 19) || !isPart(part)) return LOST + OUTSIDE;
        int without = found.daysWithout(from, to);
        if (without > MOST_WITHOUT) return LOST + OUTSIDE;
        return partOf(power(20 - q, without), power(20, without), part);
    }

    public int sure(int q, int s) {
        if (!isWithin(q, 1, 19) || !isWithin(s, 0, 100)) return OUTSIDE;
        for (int without = 0; without <= MOST_WITHOUT; without++) {
            if (power(20 - q, without) * 100 <= power(20, without) * s) return without;
        }
        return NONE;
    }

    // ---- 5 flights, readers

    public int flight(int flight, int from, int to, int weather, int risk) {
        if (!isWithin(flight, 0, Flights.MANY - 1)) return UNKNOWN;
        if (!isStrip(from, to) || !isWithin(weather, 0, 10) || !isWithin(risk, 0, 100)) return OUTSIDE;
        flights.plan(flight, from, to, weather, risk);
        return 1;
    }

    public long worth(int set, int part) {
        if (!isWithin(set, 0, Flights.SETS - 1) || !isPart(part)) return LOST + OUTSIDE;
        flights.weigh(land);
        return partOf(flights.weight(set), Flights.CERTAIN, part);
    }

    public int best(int purse, int what) {
        if (!isWithin(purse, 0, 800) || !isWithin(what, 0, 1)) return OUTSIDE;
        flights.weigh(land);
        int chosen = flights.choose(purse);
        return what == 0 ? chosen : flights.riskOf(chosen);
    }

    public long lean(int a, int n, int b, int m, int part) {
        if (!isWithin(n, 1, 20) || !isWithin(a, 0, n)) return LOST + OUTSIDE;
        if (!isWithin(m, 1, 20) || !isWithin(b, 0, m)) return LOST + OUTSIDE;
        if (!isPart(part)) return LOST + OUTSIDE;
        int saw = a + b;
        long asMany = 0;
        for (int among = a; among <= n && among <= saw; among++) {
            asMany += choices(n, among) * choices(m, saw - among);
        }
        return partOf(asMany, choices(n + m, saw), part);
    }

    public int told(int what) {
        switch (what) {
            case 0: return land.size();
            case 1: return album.size();
            case 2: return uses.signs();
            case 3: return uses.bits();
            default: return OUTSIDE;
        }
    }

    // Needs a USE that there is.
    private int judge(int use, Thing thing, int day) {
        facts.learn(thing, album, day);
        return uses.judge(use, facts);
    }

    private static boolean isWithin(int number, int least, int greatest) {
        return number >= least && number <= greatest;
    }

    private static boolean isOnLand(int x, int y) {
        return isWithin(x, 0, COLUMNS - 1) && isWithin(y, 0, ROWS - 1);
    }

    private static boolean isCell(int cell) {
        return cell >= 0 && cell < CELLS;
    }

    private static boolean isDay(int day) {
        return isWithin(day, 0, DAYS - 1);
    }

    private static boolean isStrip(int from, int to) {
        return isWithin(from, 0, COLUMNS - 1) && isWithin(to, from, COLUMNS - 1);
    }

    private static boolean isPart(int part) {
        return isWithin(part, 0, 1);
    }

    private static int cellOf(int x, int y) {
        return COLUMNS * y + x;
    }

    private static long power(long base, int times) {
        long product = 1;
        for (int i = 0; i < times; i++) product *= base;
        return product;
    }

    // In how many ways so many can be taken of so many.
    private static long choices(int all, int taken) {
        if (taken < 0 || taken > all) return 0;
        long ways = 1;
        for (int i = 1; i <= taken; i++) ways = ways * (all - taken + i) / i;
        return ways;
    }

    private static long partOf(long upper, long lower, int part) {
        long divisor = commonDivisor(upper, lower);
        if (divisor == 0) return part;
        return (part == 0 ? upper : lower) / divisor;
    }

    private static long commonDivisor(long one, long other) {
        long greater = one;
        long smaller = other;
        // Two longs need fewer than a hundred divisions.
        for (int i = 0; i < 100 && smaller != 0; i++) {
            long rest = greater % smaller;
            greater = smaller;
            smaller = rest;
        }
        return greater;
    }

    // Yes or no for numbers 0 to 127, in two fields: rows of booleans would take too much of a run's room.
    private static final class Ticks {
        private long low, high;

        boolean has(int number) {
            if (number < 0 || number > 127) return false;
            long half = number < 64 ? low : high;
            return (half >>> (number & 63) & 1) == 1;
        }

        boolean put(int number, boolean is) {
            boolean before = has(number);
            if (before == is || number < 0 || number > 127) return before;
            long bit = 1L << (number & 63);
            if (number < 64) low ^= bit;
            else high ^= bit;
            return before;
        }
    }

    private static final class Thing {
        private final int number;
        // In the order in which the document tells a THING's numbers.
        private final int[] marks;
        private final Ticks doings = new Ticks();

        Thing(int number, int[] marks) {
            this.number = number;
            this.marks = marks;
        }

        int number() {
            return number;
        }

        int mark(int what) {
            return what >= 0 && what < marks.length ? marks[what] : NONE;
        }

        void remark(int what, int v) {
            if (what >= 0 && what < marks.length) marks[what] = v;
        }

        boolean isThere(int day) {
            return isWithin(day, mark(SINCE), mark(TILL));
        }

        boolean liesOn(int x, int y) {
            int east = x - mark(X);
            int south = y - mark(Y);
            return isWithin(east, 0, mark(WIDE) - 1) && isWithin(south, 0, mark(LONG) - 1);
        }

        boolean isAbove(Thing other) {
            return other == null || mark(HEIGHT) > other.mark(HEIGHT);
        }

        boolean hasLine(int day) {
            return mark(FACING) != NO_FACING && isThere(day);
        }

        int distance(int x, int y) {
            return Math.abs(x - mark(X)) + Math.abs(y - mark(Y));
        }

        boolean tickDoing(int day, boolean is) {
            return doings.put(day, is);
        }

        int daysWithout(int from, int to) {
            int without = 0;
            for (int day = from; day <= to; day++) {
                if (!doings.has(day)) without++;
            }
            return without;
        }
    }

    private static final class Land {
        private final Thing[] things = new Thing[MOST_THINGS];
        private int size;

        int size() {
            return size;
        }

        boolean isFull() {
            return size >= MOST_THINGS;
        }

        int add(int[] marks) {
            if (isFull()) return FULL;
            things[size] = new Thing(size, marks);
            size++;
            return size - 1;
        }

        Thing find(int number) {
            return isWithin(number, 0, MOST_THINGS - 1) ? things[number] : null;
        }

        int counting(int cell, int day) {
            Thing highest = null;
            for (int i = 0; i < size; i++) {
                Thing each = find(i);
                if (each != null && each.isThere(day) && each.liesOn(cell % COLUMNS, cell / COLUMNS)
                        && each.isAbove(highest)) highest = each;
            }
            return highest == null ? NONE : highest.number();
        }

        void fillCounting(int[] row, int day) {
            for (int cell = 0; cell < row.length; cell++) row[cell] = NONE;
            for (int i = 0; i < size; i++) {
                Thing each = find(i);
                if (each != null && each.isThere(day)) lay(each, row);
            }
        }

        private void lay(Thing thing, int[] row) {
            int wide = thing.mark(WIDE);
            int cells = wide * thing.mark(LONG);
            if (wide < 1) return;
            for (int i = 0; i < cells; i++) {
                int cell = cellOf(thing.mark(X) + i % wide, thing.mark(Y) + i / wide);
                if (cell >= 0 && cell < row.length && thing.isAbove(find(row[cell]))) row[cell] = thing.number();
            }
        }
    }

    private static final class Picture {
        private final int from, to, day, sun, slope;
        private final Ticks clouds = new Ticks();
        private final int[] counting = new int[CELLS];
        // What each CELL would show, if it were covered: so clouds come and go without a new look at the land.
        private final int[] looks = new int[CELLS];

        Picture(int from, int to, int day, int sun, int slope) {
            this.from = from;
            this.to = to;
            this.day = day;
            this.sun = sun;
            this.slope = slope;
        }

        void develop(Land land) {
            land.fillCounting(counting, day);
            for (int cell = 0; cell < CELLS; cell++) looks[cell] = GROUND;
            for (int cell = 0; cell < CELLS; cell++) {
                Thing thing = land.find(counting[cell]);
                if (thing != null) castShadow(cell, shadowOf(thing.mark(HEIGHT)));
            }
            // Things come last, for they show where a shadow falls on them.
            for (int cell = 0; cell < CELLS; cell++) {
                Thing thing = land.find(counting[cell]);
                if (thing != null && thing.mark(NETTED) == 0) looks[cell] = FIRST_KIND + thing.mark(KIND);
            }
        }

        private int shadowOf(int height) {
            return height * slope / 10;
        }

        private void castShadow(int cell, int reach) {
            int way = 2 * sun;
            if (!isWithin(way, 0, WAYS - 1)) return;
            int x = cell % COLUMNS + EAST_STEP[way];
            int y = cell / COLUMNS + SOUTH_STEP[way];
            for (int step = 1; step <= reach && isOnLand(x, y); step++) {
                looks[cellOf(x, y)] = SHADOW;
                x += EAST_STEP[way];
                y += SOUTH_STEP[way];
            }
        }

        int day() {
            return day;
        }

        boolean tickCloud(int cell, boolean is) {
            return clouds.put(cell, is);
        }

        boolean covers(int cell) {
            return isCell(cell) && isWithin(cell % COLUMNS, from, to) && !clouds.has(cell);
        }

        int look(int cell) {
            return covers(cell) ? looks[cell] : NONE;
        }

        int counting(int cell) {
            return isCell(cell) ? counting[cell] : NONE;
        }

        int tally(int what) {
            int cells = 0;
            for (int cell = 0; cell < CELLS; cell++) {
                if (sortOf(look(cell)) == what) cells++;
            }
            return cells;
        }

        private static int sortOf(int look) {
            if (look == NONE) return 0;
            if (look == GROUND) return 1;
            return look == SHADOW ? 2 : 3;
        }

        int leastHeight(int cells) {
            for (int height = 1; height <= TALLEST; height++) {
                if (shadowOf(height) == cells) return height;
            }
            return NONE;
        }

        int greatestHeight(int cells) {
            for (int height = TALLEST; height >= 1; height--) {
                if (shadowOf(height) == cells) return height;
            }
            return NONE;
        }

        private boolean isUnlike(Picture other, int cell) {
            return covers(cell) && other.covers(cell) && look(cell) != other.look(cell);
        }

        int unlike(Picture other) {
            int cells = 0;
            for (int cell = 0; cell < CELLS; cell++) {
                if (isUnlike(other, cell)) cells++;
            }
            return cells;
        }

        int unlikeByHour(Picture other) {
            int cells = 0;
            for (int cell = 0; cell < CELLS; cell++) {
                boolean noThing = look(cell) < FIRST_KIND && other.look(cell) < FIRST_KIND;
                if (noThing && isUnlike(other, cell)) cells++;
            }
            return cells;
        }

        int firstUnlike(Picture other) {
            for (int cell = 0; cell < CELLS; cell++) {
                if (isUnlike(other, cell)) return cell;
            }
            return NONE;
        }
    }

    private static final class Album {
        private final Picture[] pictures = new Picture[MOST_PICTURES];
        private int size;

        int size() {
            return size;
        }

        boolean isFull() {
            return size >= MOST_PICTURES;
        }

        int add(Picture picture) {
            if (isFull()) return FULL;
            pictures[size] = picture;
            size++;
            return size - 1;
        }

        Picture find(int number) {
            return isWithin(number, 0, MOST_PICTURES - 1) ? pictures[number] : null;
        }

        boolean hasDay(int day) {
            for (int i = 0; i < size; i++) {
                Picture each = find(i);
                if (each != null && each.day() == day) return true;
            }
            return false;
        }

        void develop(Land land) {
            for (int i = 0; i < size; i++) {
                Picture each = find(i);
                if (each != null) each.develop(land);
            }
        }
    }

    // What PICTURES up to a DAY tell of one THING, learnt anew for each question.
    private static final class Facts {
        static final int MANY = 9;
        private static final int SEEN = 0, ITS_KIND = 1, ITS_HEIGHT = 2, NEAREST = 3;
        private static final int NEAR = 5, FAR = 99;
        private final int[] values = new int[MANY];
        private boolean isCovered, isSeen;

        int known(int what) {
            return what >= 0 && what < MANY ? values[what] : NONE;
        }

        void learn(Thing thing, Album album, int day) {
            for (int what = 0; what < MANY; what++) values[what] = NONE;
            int seen = 0;
            boolean hasGap = false;
            for (int cell = 0; cell < CELLS; cell++) {
                int distance = thing.distance(cell % COLUMNS, cell / COLUMNS);
                lookAt(cell, distance, thing, album, day);
                if (isSeen) seen++;
                if (!isCovered && distance <= NEAR) hasGap = true;
            }
            values[SEEN] = seen;
            if (seen > 0) {
                values[ITS_KIND] = thing.mark(KIND);
                values[ITS_HEIGHT] = thing.mark(HEIGHT);
            }
            if (!hasGap) ruleOutTheRest();
        }

        private void lookAt(int cell, int distance, Thing thing, Album album, int day) {
            isCovered = false;
            isSeen = false;
            for (int i = 0; i < album.size(); i++) {
                Picture each = album.find(i);
                if (each == null || each.day() > day) continue;
                int look = each.look(cell);
                if (look == NONE) continue;
                isCovered = true;
                if (look < FIRST_KIND) continue;
                if (each.counting(cell) == thing.number()) isSeen = true;
                else comeNearer(NEAREST + look - FIRST_KIND, distance);
            }
        }

        private void comeNearer(int what, int distance) {
            if (what < NEAREST || what >= MANY) return;
            if (values[what] == NONE || distance < values[what]) values[what] = distance;
        }

        private void ruleOutTheRest() {
            for (int what = NEAREST; what < MANY; what++) {
                if (values[what] == NONE) values[what] = FAR;
            }
        }
    }

    private static final class Uses {
        private static final int MANY = 5, LONGEST = 40;
        // What may come next in a text; behind the two last ones it may end.
        private static final int FACT = 0, NEAR_KIND = 1, RELATION = 2, DIGIT = 3, MORE = 4, JOINT = 5, FAULTY = 6;
        private final int[] signs = new int[LONGEST];
        private int length;
        private final int[][] texts = new int[MANY][LONGEST];
        // No text is empty, so a length of 0 tells that there is none.
        private final int[] lengths = new int[MANY];

        int signs() {
            return length;
        }

        int append(int sign) {
            if (length >= LONGEST) return FULL;
            signs[length] = sign;
            length++;
            return length;
        }

        int clear() {
            int before = length;
            length = 0;
            return before;
        }

        int firstFault() {
            int next = FACT;
            for (int i = 0; i < length && i < LONGEST; i++) {
                next = behind(next, signs[i]);
                if (next == FAULTY) return i;
            }
            return next == MORE || next == JOINT ? NONE : length;
        }

        private static int behind(int next, int sign) {
            switch (next) {
                case FACT: return behindFact(sign);
                case NEAR_KIND: return isWithin(sign, '0', '5') ? RELATION : FAULTY;
                case RELATION: return sign == '<' || sign == '>' || sign == '=' ? DIGIT : FAULTY;
                case DIGIT: return isDigit(sign) ? MORE : FAULTY;
                case MORE: return isDigit(sign) ? JOINT : behindJoint(sign);
                case JOINT: return behindJoint(sign);
                default: return FAULTY;
            }
        }

        private static int behindFact(int sign) {
            if (sign == 'n') return NEAR_KIND;
            return sign == 's' || sign == 'k' || sign == 'h' ? RELATION : FAULTY;
        }

        private static int behindJoint(int sign) {
            return sign == '&' || sign == '|' ? FACT : FAULTY;
        }

        private static boolean isDigit(int sign) {
            return isWithin(sign, '0', '9');
        }

        boolean isPlace(int use) {
            return isWithin(use, 0, MANY - 1);
        }

        boolean has(int use) {
            return isPlace(use) && lengths[use] > 0;
        }

        void keep(int use) {
            if (!isPlace(use)) return;
            for (int i = 0; i < length && i < LONGEST; i++) texts[use][i] = signs[i];
            lengths[use] = length;
            length = 0;
        }

        int bits() {
            int bits = 0;
            for (int use = 0; use < MANY; use++) {
                if (has(use)) bits |= 1 << use;
            }
            return bits;
        }

        // Kept texts have no fault, so each sign tells its part by itself and by what stood before it.
        int judge(int use, Facts facts) {
            if (!has(use)) return NOT_SO;
            int whole = NOT_SO, both = SO, what = 0, relation = 0, number = 0;
            for (int i = 0; i <= lengths[use]; i++) {
                int sign = signOf(use, i);
                if (sign == '&' || sign == '|') {
                    both = Math.min(both, test(facts.known(what), relation, number));
                    relation = 0;
                    number = 0;
                    if (sign == '|') {
                        whole = Math.max(whole, both);
                        both = SO;
                    }
                } else if (isDigit(sign)) {
                    if (relation == 0) what = Facts.NEAREST + sign - '0';
                    else number = 10 * number + sign - '0';
                } else if (sign == '<' || sign == '>' || sign == '=') {
                    relation = sign;
                } else {
                    what = sign == 's' ? Facts.SEEN : sign == 'k' ? Facts.ITS_KIND : Facts.ITS_HEIGHT;
                }
            }
            return whole;
        }

        // The end of a text closes its last BOTH as a | does.
        private int signOf(int use, int place) {
            if (!isPlace(use) || place < 0 || place >= lengths[use] || place >= LONGEST) return '|';
            return texts[use][place];
        }

        private static int test(int known, int relation, int number) {
            if (known == NONE) return OPEN;
            if (relation == '<') return known < number ? SO : NOT_SO;
            if (relation == '>') return known > number ? SO : NOT_SO;
            return known == number ? SO : NOT_SO;
        }
    }

    private static final class Lines {
        private final int[] crossings = new int[CELLS];
        private int cell, most;

        // NONE: there are no LINES, or none of them has a CELL.
        int cell() {
            return cell;
        }

        int most() {
            return most;
        }

        void draw(Land land, int day) {
            for (int i = 0; i < CELLS; i++) crossings[i] = 0;
            for (int i = 0; i < land.size(); i++) {
                Thing each = land.find(i);
                if (each != null && each.hasLine(day)) drawFrom(each);
            }
            cell = NONE;
            most = 0;
            for (int i = 0; i < CELLS; i++) {
                if (crossings[i] > most) {
                    cell = i;
                    most = crossings[i];
                }
            }
        }

        private void drawFrom(Thing thing) {
            int way = thing.mark(FACING);
            if (!isWithin(way, 0, WAYS - 1)) return;
            int x = thing.mark(X);
            int y = thing.mark(Y);
            for (int step = 0; step < COLUMNS && isOnLand(x, y); step++) {
                if (!thing.liesOn(x, y)) crossings[cellOf(x, y)]++;
                x += EAST_STEP[way];
                y += SOUTH_STEP[way];
            }
        }

        boolean allMayCross(Land land, int day) {
            for (int i = 0; i < land.size(); i++) {
                Thing each = land.find(i);
                if (each != null && each.hasLine(day) && !mayCross(each)) return false;
            }
            return true;
        }

        // Lines go on to the land's end, so a CELL lies on one of the 8 ways or on none.
        private boolean mayCross(Thing thing) {
            int x = cell % COLUMNS;
            int y = cell / COLUMNS;
            int east = Math.abs(x - thing.mark(X));
            int south = Math.abs(y - thing.mark(Y));
            return !thing.liesOn(x, y) && (east == 0 || south == 0 || east == south);
        }

        long lots(Land land, int day) {
            long lots = 1;
            for (int i = 0; i < land.size(); i++) {
                Thing each = land.find(i);
                if (each != null && each.hasLine(day)) lots *= WAYS;
            }
            return lots;
        }
    }

    private static final class Flights {
        static final int MANY = 8, SETS = 256;
        // Certainty, in so small parts that the odds of all 8 FLIGHTS together stay whole.
        static final long CERTAIN = 100000000L;
        private final int[] from = new int[MANY];
        private final int[] to = new int[MANY];
        private final int[] weather = new int[MANY];
        private final int[] risk = new int[MANY];
        private final long[] missing = new long[SETS];
        private final long[] weights = new long[SETS];

        void plan(int flight, int from, int to, int weather, int risk) {
            if (!isWithin(flight, 0, MANY - 1)) return;
            this.from[flight] = from;
            this.to[flight] = to;
            this.weather[flight] = weather;
            this.risk[flight] = risk;
        }

        void weigh(Land land) {
            for (int set = 0; set < SETS; set++) weights[set] = 0;
            for (int i = 0; i < land.size(); i++) {
                Thing each = land.find(i);
                if (each != null && each.mark(WANTED) == 1) weighColumn(each.mark(X));
            }
        }

        // The odds that nothing of a set comes off are those of the set without its last FLIGHT, times that one's.
        private void weighColumn(int x) {
            missing[0] = CERTAIN;
            for (int last = 0; last < MANY; last++) {
                int bit = 1 << last;
                int tenths = tenthsMissing(last, x);
                for (int rest = 0; rest < bit; rest++) {
                    missing[bit + rest] = missing[rest] / 10 * tenths;
                    weights[bit + rest] += CERTAIN - missing[bit + rest];
                }
            }
        }

        private int tenthsMissing(int flight, int x) {
            if (!isWithin(flight, 0, MANY - 1) || !isWithin(x, from[flight], to[flight])) return 10;
            return 10 - weather[flight];
        }

        long weight(int set) {
            return isWithin(set, 0, SETS - 1) ? weights[set] : 0;
        }

        int riskOf(int set) {
            int together = 0;
            for (int flight = 0; flight < MANY; flight++) {
                if ((set >> flight & 1) == 1) together += risk[flight];
            }
            return together;
        }

        // The empty set has no RISK, so there is always one to begin with.
        int choose(int purse) {
            int chosen = 0;
            int least = 0;
            for (int set = 1; set < SETS; set++) {
                int together = riskOf(set);
                if (together > purse) continue;
                long gain = weights[set] - weights[chosen];
                if (gain > 0 || gain == 0 && together < least) {
                    chosen = set;
                    least = together;
                }
            }
            return chosen;
        }
    }
}
