/**
 * The boundary cases that the document names of heads to sell and to buy, holes, seats, rain and walks, sentence by
 * sentence, each in a test of its own: what ==== 3 and ==== 4 tell of them, and promises 32, 33 and 35 to 44.
 */
public final class RestEdgesTest {
    private static final Desk DESK = new Desk();
    /** Three columns, two rows, two HERDS. */
    private static final String PLAIN = "row 5 5 5;row 5 5 5;herd a 0 0 1;herd b 2 1 2;wolf 0 0 1;";
    private static final int[] SEEDS = {0, 1, 2, 9, 12345, -1, -12345, Integer.MAX_VALUE, Integer.MIN_VALUE, 1 << 30};

    private static StiltHerds plain() {
        return Desk.on(PLAIN);
    }

    private static void dueSeats(StiltHerds x, int... order) {
        for (int i = 0; i < order.length; i++) {
            DESK.due("seat(" + i + ")", x.seat(i), order[i]);
        }
        DESK.due("seat() behind the last", x.seat(order.length), -1);
    }

    /** HERDS with so many HEADS each, on one CELL. */
    private static StiltHerds herdsOf(int... heads) {
        StringBuilder text = new StringBuilder("row 5 5;");
        for (int h = 0; h < heads.length; h++) {
            text.append("herd ").append((char) ('a' + h)).append(" 0 0 ").append(heads[h]).append(';');
        }
        return Desk.on(text.toString());
    }

    /** Draw number n (from 1) of 100 by a seed, told over longs, which do not wrap. */
    private static int draw(int seed, int n) {
        long x = Integer.toUnsignedLong(seed);
        for (int i = 0; i < n; i++) {
            x = (x * 1103515245L + 12345L) % (1L << 32);
        }
        return (int) (x / 256 % 100);
    }

    /** The STEP at which one falls by a seed, all STEPS being of one RISK. */
    private static int fall(int seed, int steps, int risk) {
        for (int step = 1; step <= steps; step++) {
            if (draw(seed, step) < risk) {
                return step;
            }
        }
        return 0;
    }

    private static void dueWay(StiltHerds x, int... cells) {
        for (int i = 0; i < cells.length; i++) {
            DESK.due("way(" + i + ")", x.way(i), cells[i]);
        }
        DESK.due("way() behind the last", x.way(cells.length), -1);
    }

    // ---- SOLD LOW, promises 32 and 33

    @Sentence("SOLD LOW: the fewest HEADS that a HERD must sell so that there is a WAY with its STILTS then")
    private static void fewestSold() {
        StiltHerds x = Desk.on("row 5 5 5;law 3 9;door 1 0 2;herd a 0 0 12;herd b 0 0 8;herd c 0 0 9;herd d 0 0 99;");
        DESK.due("from 12 to 8", x.low(0, 2), 4);
        DESK.due("8 are few enough", x.low(1, 2), 0);
        DESK.due("one fewer than 9", x.low(2, 2), 1);
        DESK.due("MOST counts: from 99 to 8", x.low(3, 2), 91);
        DESK.due("HEADS stay", x.flock(), 12 + 8 + 9 + 99);
        DESK.due("no ACT was done", x.undo(), -1);
        StiltHerds y = Desk.on("row 5 5;door 1 0 0;herd a 0 0 99;");
        DESK.due("all of 99", y.low(0, 1), 99);
        StiltHerds z = Desk.on("row 5 5;door 0 0 3;herd a 0 0 9;");
        DESK.due("it must STAND on its own CELL", z.low(0, 0), 6);
        DESK.due("and go from there", z.low(0, 1), 6);
    }

    @Sentence("32: SOLD LOW today")
    private static void lowToday() {
        StiltHerds x = Desk.on("row 5 5 5;door 1 0 2;water 0 5;water 1 8;herd a 0 0 9;");
        DESK.due("DAY 0", x.low(0, 2), 7);
        x.day();
        DESK.due("DAY 1: the door is too low in the water", x.low(0, 2), -1);
        DESK.due("DAY 1: where it is", x.low(0, 0), 0);
    }

    @Sentence("32: how many HEADS (0: none)")
    private static void lowOfZero() {
        StiltHerds x = Desk.on("row 5 5;herd a 0 0 9;herd b 0 0 0;");
        DESK.due("it can go as it is", x.low(0, 1), 0);
        DESK.due("to its own CELL", x.low(0, 0), 0);
        DESK.due("without HEADS", x.low(1, 1), 0);
    }

    @Sentence("32: NONE: none are enough, no such ones")
    private static void lowOfNone() {
        StiltHerds x = Desk.on("row 5 1 5;row 5 5 5;water 0 5;mud 1 1 8;herd a 0 0 3;herd b 0 0 0;");
        DESK.due("it is too low already", x.low(0, 2), -1);
        DESK.due("it has no HEADS", x.low(1, 2), -1);
        DESK.refusesHerds("low() of HERD", h -> x.low(h, 0));
        DESK.refusesCells("low() to", at -> x.low(0, at));
        DESK.due("the last ones are such", plain().low(1, 12), 0);
    }

    @Sentence("33: The fewest HEADS that a HERD must buy (99 at most then) so that there is a WAY with its STILTS then")
    private static void fewestBought() {
        StiltHerds x = Desk.on("row 9 5 9;water 0 9;law 3 9;herd a 0 0 0;herd b 0 0 11;herd c 0 0 12;herd d 0 0 10;");
        DESK.due("from 0 to 12", x.high(0, 2), 12);
        DESK.due("one more than 11", x.high(1, 2), 1);
        DESK.due("12 are enough", x.high(2, 2), 0);
        DESK.due("HEADS stay", x.flock(), 33);
        DESK.due("no ACT was done", x.undo(), -1);
        StiltHerds y = Desk.on("row 99 0;water 0 99;herd a 0 0 0;herd b 0 0 99;herd c 0 0 98;");
        DESK.due("99 then", y.high(0, 1), 99);
        DESK.due("it has 99", y.high(1, 1), 0);
        DESK.due("from 98 to 99", y.high(2, 1), 1);
        StiltHerds z = Desk.on("row 5 5;mud 0 0 9;herd a 0 0 3;");
        DESK.due("it must STAND on its own CELL", z.high(0, 0), 6);
        DESK.due("and go from there", z.high(0, 1), 6);
    }

    @Sentence("33: today")
    private static void highToday() {
        StiltHerds x = Desk.on("row 9 5 9;water 0 9;water 1 12;herd a 0 0 3;");
        DESK.due("DAY 0", x.high(0, 2), 1);
        x.day();
        DESK.due("DAY 1", x.high(0, 2), 4);
    }

    @Sentence("33: NONE: none are enough, no such ones")
    private static void highOfNone() {
        StiltHerds most = Desk.on("row 9 5 9;water 0 9;law 1 3;herd a 0 0 3;");
        DESK.due("MOST is too low", most.high(0, 2), -1);
        StiltHerds each = Desk.on("row 50 0;water 0 50;law 2 99;herd a 0 0 3;");
        DESK.due("99 HEADS by 2 are 49", each.high(0, 1), -1);
        StiltHerds door = Desk.on("row 5 5;door 1 0 2;herd a 0 0 3;");
        DESK.due("it is too high already", door.high(0, 1), -1);
        StiltHerds x = plain();
        DESK.refusesHerds("high() of HERD", h -> x.high(h, 0));
        DESK.refusesCells("high() to", at -> x.high(0, at));
        DESK.due("the last ones are such", x.high(1, 12), 0);
    }

    // ---- HOLES, promise 35

    @Sentence("HOLES: a HERD with STILTS h leaves one of h by 5 (cut) and 3")
    private static void holesAreCut() {
        int[] heads = {0, 4, 5, 9, 10, 94, 95, 99};
        int[] inches = {3, 3, 4, 4, 5, 21, 22, 22};
        for (int hole = 0; hole < 256; hole++) {
            int due = 0;
            for (int h = 0; h < heads.length; h++) {
                due |= inches[h] == hole ? 1 << h : 0;
            }
            DESK.due("a hole of " + hole, Desk.holes(herdsOf(heads), 1, 0, hole), due);
        }
        StiltHerds law = Desk.on("row 5 5;law 2 99;herd a 0 0 9;herd b 0 0 10;");
        DESK.due("by STILTS, not by HEADS", Desk.holes(law, 0, 0, 4), 2);
    }

    @Sentence("HOLES: and mud's N by 2 (cut) where there is mud")
    private static void holesInMud() {
        int[] muds = {0, 1, 2, 7, 98, 99};
        int[] due = {0, 0, 1, 3, 49, 49};
        for (int i = 0; i < muds.length; i++) {
            StiltHerds x = Desk.on("row 5 5;mud 1 0 " + muds[i] + ";herd a 0 0 99;");
            DESK.due("in mud of " + muds[i], Desk.holes(x, 1, 0, 22 + due[i]), 1);
            DESK.due("an inch more", Desk.holes(x, 1, 0, 23 + due[i]), 0);
            DESK.due("an inch less", Desk.holes(x, 1, 0, 21 + due[i]), 0);
            DESK.due("where there is no mud", Desk.holes(x, 0, 0, 22), 1);
        }
        // Both cuts are made apart: 9 by 5 and 3 by 2 are 1 and 1.
        DESK.due("cut apart", Desk.holes(Desk.on("row 5 5;mud 0 0 3;herd a 0 0 9;"), 0, 0, 5), 1);
    }

    @Sentence("HOLES: all must be so")
    private static void allHolesMustBeSo() {
        StiltHerds x = Desk.on("row 5 5;mud 1 0 4;herd a 0 0 4;herd b 0 0 5;");
        DESK.due("of HERD 0", Desk.holes(x, 0, 0, 3, 1, 0, 5, 0, 0, 3), 1);
        DESK.due("of HERD 1", Desk.holes(x, 0, 0, 4, 1, 0, 6), 2);
        DESK.due("one of each", Desk.holes(x, 0, 0, 3, 1, 0, 6), 0);
        DESK.due("the first is not so", Desk.holes(x, 0, 0, 9, 0, 0, 3, 0, 0, 3), 0);
        DESK.due("the last is not so", Desk.holes(x, 0, 0, 3, 0, 0, 3, 0, 0, 9), 0);
        DESK.due("the same one twice", Desk.holes(x, 0, 0, 3, 0, 0, 3), 1);
    }

    @Sentence("HOLES: it STANDS on each of them; today")
    private static void standsOnEachHole() {
        StiltHerds x = Desk.on("row 5 5 5;row 5 1 5;water 0 5;water 1 6;door 1 0 2;mud 2 0 4;herd a 0 0 2;herd b 0 0 3;herd c 0 0 4;");
        DESK.due("a door", Desk.holes(x, 1, 0, 3), 1);
        DESK.due("mud", Desk.holes(x, 2, 0, 5), 4);
        DESK.due("water", Desk.holes(x, 1, 1, 3), 4);
        DESK.due("STANDS on one of two", Desk.holes(x, 0, 0, 3, 1, 0, 3), 1);
        DESK.due("no HERD on all", Desk.holes(x, 1, 0, 3, 1, 1, 3), 0);
        x.day();
        DESK.due("water of today", Desk.holes(x, 1, 1, 3), 0);
        DESK.due("it need not come there from its CELL",
            Desk.holes(Desk.on("row 5 0 5;water 0 5;herd a 0 0 0;"), 2, 0, 3), 1);
    }

    @Sentence("35: HOLES of the tape (1 to 40 of them)")
    private static void oneToFortyHoles() {
        StiltHerds x = plain();
        DESK.due("none", Desk.holes(x), -1);
        DESK.due("one", Desk.holes(x, 0, 0, 3), 3);
        int[] holes = new int[123];
        for (int i = 2; i < holes.length; i += 3) {
            holes[i] = 3;
        }
        DESK.due("40", Desk.holes(x, java.util.Arrays.copyOf(holes, 120)), 3);
        DESK.due("41", Desk.holes(x, holes), -1);
        holes[119] = 4;
        DESK.due("the fortieth counts", Desk.holes(x, java.util.Arrays.copyOf(holes, 120)), 0);
    }

    @Sentence("35: NONE: not as told")
    private static void holesNotAsTold() {
        StiltHerds x = plain();
        DESK.due("1 byte", Desk.holes(x, 0), -1);
        DESK.due("2 bytes", Desk.holes(x, 0, 0), -1);
        DESK.due("4 bytes", Desk.holes(x, 0, 0, 3, 0), -1);
        DESK.due("5 bytes", Desk.holes(x, 0, 0, 3, 0, 0), -1);
        DESK.due("121 bytes", Desk.holes(x, new int[121]), -1);
        DESK.due("no such column", Desk.holes(x, 3, 0, 3), -1);
        DESK.due("no such row", Desk.holes(x, 0, 2, 3), -1);
        DESK.due("the last CELL is one", Desk.holes(x, 2, 1, 3), 3);
        DESK.due("X of 255", Desk.holes(x, 255, 0, 3), -1);
        DESK.due("Y of 255", Desk.holes(x, 0, 255, 3), -1);
        DESK.due("Y of 128", Desk.holes(x, 0, 128, 3), -1);
        DESK.due("digits are no X", Desk.holes(x, '0', '0', '3'), -1);
        DESK.due("one of two on no CELL", Desk.holes(x, 0, 0, 3, 3, 0, 3), -1);
        DESK.due("on no CELL behind one that nobody made", Desk.holes(x, 0, 0, 99, 0, 2, 3), -1);
        DESK.due("the tape is empty", x.count(9), 0);
        x.feed(0x000003ff, -1, -1, -1, -1);
        x.end(3);
        DESK.due("what end() cut off is no hole", x.holes(), 3);
        DESK.due("without a MOOR", Desk.holes(new StiltHerds(), 0, 0, 3), -1);
        DESK.due("without HERDS none made them", Desk.holes(Desk.on("row 5 5;"), 0, 0, 3), 0);
    }

    // ---- SEATS, promises 36 and 37

    @Sentence("SEATS: orders of all HERDS on a wall, neighbours with STILTS no more than so many inches apart")
    private static void neighboursApart() {
        StiltHerds x = herdsOf(10, 14, 18);
        DESK.due("3 inches", x.seats(3), 0);
        DESK.due("4 inches: there and back", x.seats(4), 2);
        DESK.due("7 inches", x.seats(7), 2);
        DESK.due("8 inches: all", x.seats(8), 6);
        StiltHerds law = Desk.on("row 5 5;law 5 3;herd a 0 0 4;herd b 0 0 5;herd c 0 0 99;");
        DESK.due("by STILTS: 0, 1, 3", law.seats(1), 0);
        DESK.due("by STILTS: 0, 1, 3", law.seats(2), 2);
        DESK.due("all HERDS, those of like STILTS are two", herdsOf(7, 7).seats(0), 2);
        DESK.due("one HERD", herdsOf(7).seats(0), 1);
        DESK.due("eight alike", herdsOf(1, 1, 1, 1, 1, 1, 1, 1).seats(0), 40320);
        DESK.due("eight in a row", herdsOf(1, 2, 3, 4, 5, 6, 7, 8).seats(1), 2);
    }

    @Sentence("SEATS: the first one: place by place the least")
    private static void placeByPlace() {
        StiltHerds x = herdsOf(14, 10, 18, 22);
        DESK.due("4 inches", x.seats(4), 2);
        dueSeats(x, 1, 0, 2, 3);
        StiltHerds y = herdsOf(10, 18, 14, 22);
        DESK.due("8 inches", y.seats(8), 12);
        dueSeats(y, 0, 1, 2, 3);
        StiltHerds z = herdsOf(10, 30, 20, 11);
        DESK.due("10 inches", z.seats(10), 4);
        dueSeats(z, 0, 3, 2, 1);
    }

    @Sentence("36: so many inches (0 to 99); NONE: not as told")
    private static void inchesOfSeats() {
        StiltHerds x = herdsOf(0, 99);
        DESK.due("seats(0)", x.seats(0), 0);
        DESK.due("seats(98)", x.seats(98), 0);
        DESK.due("seats(99)", x.seats(99), 2);
        DESK.refusesNumbers("seats()", inches -> x.seats(inches));
        dueSeats(x, 0, 1);
    }

    @Sentence("36: orders of no HERDS")
    private static void seatsOfNoHerds() {
        DESK.due("without a MOOR", new StiltHerds().seats(0), 1);
        StiltHerds x = Desk.on("row 5 5;");
        DESK.due("without HERDS", x.seats(99), 1);
        dueSeats(x);
        StiltHerds y = herdsOf(7, 7);
        y.seats(0);
        Desk.moor(y, "row 5 5;");
        DESK.due("HERDS no more", y.seats(0), 1);
        dueSeats(y);
    }

    @Sentence("37: of the latest seats() that was 1 or more")
    private static void latestSeats() {
        StiltHerds x = herdsOf(10, 14, 12);
        x.seats(2);
        dueSeats(x, 0, 2, 1);
        DESK.due("seats(1)", x.seats(1), 0);
        dueSeats(x, 0, 2, 1);
        x.seats(-1);
        dueSeats(x, 0, 2, 1);
        x.trade(0, 9, 0);
        dueSeats(x, 0, 2, 1);
        x.seats(99);
        dueSeats(x, 0, 1, 2);
        Desk.moor(x, "row 5 5;herd a 0 0 1;herd b 0 0 2;");
        dueSeats(x, 0, 1, 2);
        x.seats(1);
        dueSeats(x, 0, 1);
    }

    @Sentence("37: of the latest seats() that was 1")
    private static void seatsOfOne() {
        StiltHerds x = herdsOf(7);
        DESK.due("seats(0)", x.seats(0), 1);
        dueSeats(x, 0);
    }

    @Sentence("37: NONE: none such, or ahead of any")
    private static void seatOfNone() {
        StiltHerds x = herdsOf(10, 14, 12);
        DESK.due("ahead of any", x.seat(0), -1);
        x.seats(1);
        DESK.due("ahead of any that was 1 or more", x.seat(0), -1);
        x.seats(2);
        DESK.refuses("seat()", new int[] {-1, 3, 7, 8, Integer.MIN_VALUE, Integer.MAX_VALUE}, i -> x.seat(i));
        StiltHerds eight = herdsOf(1, 1, 1, 1, 1, 1, 1, 1);
        eight.seats(0);
        dueSeats(eight, 0, 1, 2, 3, 4, 5, 6, 7);
    }

    // ---- RAIN, promises 38 to 40

    @Sentence("RAIN of n inches: WATER is n more. CUT OFF: CELLS to which there is a WAY, and none by RAIN")
    private static void cutOff() {
        StiltHerds x = Desk.on("row 9 5 9;water 0 4;water 1 8;");
        DESK.due("RAIN of 0", x.cut(0, 2, 0, 0), 0);
        DESK.due("RAIN of 3: DEPTH as STILTS", x.cut(0, 2, 0, 3), 0);
        DESK.due("RAIN of 4: the pool and what is behind it", x.cut(0, 2, 0, 4), 2);
        DESK.due("RAIN of 7", x.cut(0, 2, 0, 7), 2);
        DESK.due("on DAY 1 they are cut off already", x.cut(0, 2, 1, 3), 0);
        DESK.due("WATER may be above 99 then", Desk.on("row 99 99;water 0 99;").cut(0, 98, 0, 99), 2);
        DESK.due("and one still STANDS", Desk.on("row 99 99;water 0 99;").cut(0, 99, 0, 99), 0);
    }

    @Sentence("CUT OFF: all of them, if one does not STAND there then")
    private static void allAreCutOff() {
        StiltHerds x = Desk.on("row 5 9 9;row 9 9 1;water 0 4;");
        DESK.due("from the low CELL", x.cut(0, 2, 0, 4), 5);
        DESK.due("from a high one", x.cut(1, 2, 0, 4), 1);
        DESK.due("one does not STAND there now", x.cut(12, 2, 0, 4), 0);
        DESK.due("by the most RAIN", x.cut(11, 2, 0, 99), 5);
    }

    @Sentence("38: RAIN of n (0 to 99) inches; NONE: no such ones")
    private static void cutOfNoSuch() {
        StiltHerds x = plain();
        DESK.refusesCells("cut() from", at -> x.cut(at, 0, 0, 0));
        DESK.refusesNumbers("cut() with", h -> x.cut(0, h, 0, 0));
        DESK.refusesDays("cut() on", day -> x.cut(0, 0, day, 0));
        DESK.refusesNumbers("cut() by", n -> x.cut(0, 0, 0, n));
        DESK.due("all at their most", x.cut(12, 99, 29, 99), 0);
        DESK.due("STILTS that are too low", x.cut(12, 93, 29, 99), 6);
    }

    @Sentence("39: The least inches of RAIN by which there is no WAY between two CELLS any more")
    private static void leastRain() {
        StiltHerds x = Desk.on("row 9 5 9;row 9 7 9;water 0 4;water 1 6;");
        for (int h = 0; h < 20; h++) {
            DESK.due("past the pools with " + h, x.drowns(0, 2, h, 0), 7 + h - 4 + 1);
            DESK.due("on the hill with " + h, x.drowns(0, 0, h, 0), 9 + h - 4 + 1);
            DESK.due("on DAY 1 with " + h, x.drowns(0, 2, h, 1), 7 + h - 6 + 1);
        }
        DESK.due("one inch is enough", Desk.on("row 5 5;water 0 9;").drowns(0, 1, 4, 0), 1);
        DESK.due("doors stay", Desk.on("row 5 5;door 1 0 3;").drowns(0, 1, 3, 0), 9);
    }

    @Sentence("39: NONE: there is none now, or none by 99, no such ones")
    private static void drownsOfNone() {
        DESK.due("there is none now", Desk.on("row 5 5;water 0 9;").drowns(0, 1, 3, 0), -1);
        DESK.due("none now by a door", Desk.on("row 5 5;door 1 0 3;").drowns(0, 1, 4, 0), -1);
        DESK.due("by 99", Desk.on("row 98 98;").drowns(0, 1, 0, 0), 99);
        DESK.due("by 98", Desk.on("row 97 98;").drowns(0, 1, 0, 0), 98);
        DESK.due("not by 99", Desk.on("row 99 99;").drowns(0, 1, 0, 0), -1);
        DESK.due("by 99 with STILTS", Desk.on("row 50 50;").drowns(0, 1, 48, 0), 99);
        DESK.due("not by 99 with STILTS", Desk.on("row 50 50;").drowns(0, 1, 49, 0), -1);
        StiltHerds x = plain();
        DESK.refusesCells("drowns() from", at -> x.drowns(at, 0, 0, 0));
        DESK.refusesCells("drowns() to", at -> x.drowns(0, at, 0, 0));
        DESK.refusesNumbers("drowns() with", h -> x.drowns(0, 0, h, 0));
        DESK.refusesDays("drowns() on", day -> x.drowns(0, 0, 0, day));
        DESK.due("the last ones are such", x.drowns(12, 12, 0, 29), 6);
    }

    @Sentence("40: The first DAY from today on that one can go between two CELLS")
    private static void firstDryDay() {
        StiltHerds x = Desk.on("row 5 5;water 0 5;water 1 9;water 3 5;water 4 9;water 28 7;water 29 5;");
        int[] due = {0, 3, 3, 3, 29, 29};
        for (int day = 0; day < due.length; day++) {
            DESK.due("from DAY " + day, x.dry(0, 1, 0), due[day]);
            x.day();
        }
        DESK.due("with higher STILTS", x.dry(0, 1, 2), 28);
        for (int day = 7; day <= 29; day++) {
            x.day();
        }
        DESK.due("on the last DAY", x.dry(0, 1, 0), 29);
    }

    @Sentence("40: NONE: on none, no such ones")
    private static void dryOfNone() {
        StiltHerds x = Desk.on("row 5 5;water 1 6;");
        DESK.due("today", x.dry(0, 1, 0), 0);
        x.day();
        DESK.due("not on a DAY behind", x.dry(0, 1, 0), -1);
        DESK.due("with an inch", x.dry(0, 1, 1), 1);
        DESK.due("WIND and FOG of DAY 0 are no WATER of a DAY 30", Desk.on("row 5 5;water 0 9;wind 0 1;fog 0 1;").dry(0, 1, 0), -1);
        DESK.due("on none by a door", Desk.on("row 5 5;door 1 0 3;").dry(0, 1, 4), -1);
        StiltHerds y = plain();
        DESK.refusesCells("dry() from", at -> y.dry(at, 0, 0));
        DESK.refusesCells("dry() to", at -> y.dry(0, at, 0));
        DESK.refusesNumbers("dry() with", h -> y.dry(0, 0, h));
        DESK.due("the last ones are such", y.dry(12, 0, 99), 0);
    }

    // ---- promises 41 and 42

    @Sentence("41: The HERD that can come today to most CELLS (of like ones the first)")
    private static void widestOfLikeOnes() {
        String rows = "row 5 5 0 5 5 5;water 0 5;water 1 7;";
        DESK.due("the second", Desk.on(rows + "herd a 0 0 1;herd b 4 0 1;herd c 1 0 1;").widest(), 1);
        DESK.due("the first of like ones", Desk.on(rows + "herd a 0 0 1;herd b 4 0 1;herd c 3 0 1;").widest(), 1);
        DESK.due("the last", Desk.on(rows + "herd a 0 0 1;herd b 4 0 1;herd c 0 0 5;").widest(), 2);
        DESK.due("of like ones the first", Desk.on(rows + "herd a 0 0 1;herd b 1 0 4;").widest(), 0);
        StiltHerds x = Desk.on(rows + "herd a 3 0 1;herd b 0 0 2;");
        DESK.due("DAY 0", x.widest(), 0);
        x.day();
        DESK.due("DAY 1: the first does not STAND", x.widest(), 1);
        DESK.due("all come to none: the first", Desk.on("row 5 5;water 0 9;herd a 0 0 1;herd b 1 0 1;").widest(), 0);
    }

    @Sentence("41: NONE: there is none")
    private static void widestOfNone() {
        DESK.due("without a MOOR", new StiltHerds().widest(), -1);
        DESK.due("without HERDS", Desk.on("row 5 5;").widest(), -1);
    }

    @Sentence("42: Who passes today from a CELL to another: HERDS, by their STILTS, as bits")
    private static void whoPasses() {
        StiltHerds x = Desk.on("row 5 5 5;row 1 1 1;law 2 99;door 1 0 3;mud 2 0 2;water 0 5;water 1 8;"
            + "herd a 0 1 3;herd b 0 1 4;herd c 0 1 7;herd d 0 1 8;herd e 0 0 6;");
        DESK.due("wherever they are", x.who(0, 2), 2 | 4 | 8 | 16);
        DESK.due("to the door", x.who(0, 1), 1 | 2 | 4 | 16);
        DESK.due("on one CELL", x.who(0, 0), 31);
        DESK.due("in the water", x.who(10, 10), 8);
        x.day();
        DESK.due("today", x.who(0, 2), 4 | 16);
        DESK.due("without HERDS", Desk.on("row 5 5;").who(0, 1), 0);
        DESK.due("all eight", herdsOf(1, 1, 1, 1, 1, 1, 1, 1).who(0, 1), 255);
    }

    @Sentence("42: NONE: no such ones")
    private static void whoOfNoSuch() {
        StiltHerds x = plain();
        DESK.refusesCells("who() from", at -> x.who(at, 0));
        DESK.refusesCells("who() to", at -> x.who(0, at));
        DESK.due("the last ones are such", x.who(12, 12), 3);
        DESK.due("without a MOOR", new StiltHerds().who(0, 0), -1);
    }

    // ---- WALK, promises 43 and 44

    @Sentence("WALK: x becomes x * 1103515245 + 12345 (an int, wrapping), the draw is (x >>> 8) % n")
    private static void drawsWrap() {
        for (int seed : SEEDS) {
            for (int risk : new int[] {1, 5, 20, 50, 80}) {
                StiltHerds x = Desk.on("row 5 5 5 5 5 5 5 5 5 5;wind 0 " + risk + ";");
                DESK.due("walk by " + seed + " at RISK " + risk, x.walk(0, 9, 7, seed), fall(seed, 9, risk));
            }
        }
    }

    @Sentence("WALK: below its RISK: one falls at that STEP")
    private static void belowItsRisk() {
        for (int seed : SEEDS) {
            int drawn = draw(seed, 1);
            StiltHerds x = Desk.on("row 5 5;wind 0 " + drawn + ";wind 1 " + Math.min(drawn + 1, 99) + ";");
            DESK.due("a draw as high as RISK", x.walk(0, 1, 0, seed), 0);
            x.day();
            DESK.due("a draw below RISK", x.walk(0, 1, 0, seed), drawn < 99 ? 1 : 0);
            DESK.due("RISK of 0", Desk.on("row 5 5;").walk(0, 1, 99, seed), 0);
            DESK.due("RISK of 100", Desk.on("row 5 15;").walk(0, 1, 99, seed), fall(seed, 1, 99));
            DESK.due("RISK of 100", Desk.on("row 5 15;wind 0 1;").walk(0, 1, 99, seed), 1);
        }
    }

    @Sentence("WALK: for each STEP a draw; RISK is that STEP's own")
    private static void eachStepItsRisk() {
        for (int seed : SEEDS) {
            StiltHerds last = Desk.on("row 5 5 5 25;");
            DESK.due("the last STEP alone is a RISK", last.walk(0, 3, 99, seed), 3);
            StiltHerds second = Desk.on("row 5 5 25 5;");
            DESK.due("the second and the third are", second.walk(0, 3, 99, seed), 2);
            StiltHerds third = Desk.on("row 5 5 5 7;");
            DESK.due("a third draw", third.walk(0, 3, 99, seed), draw(seed, 3) < 19 ? 3 : 0);
        }
    }

    @Sentence("WALK: along the WAY of least RISK")
    private static void alongLeastRisk() {
        StiltHerds x = Desk.on("row 5 9 5;row 5 5 5;");
        DESK.due("walk()", x.walk(0, 2, 10, 1), 0);
        dueWay(x, 0, 10, 11, 12, 2);
        x.walk(0, 2, 0, 1);
        dueWay(x, 0, 1, 2);
    }

    @Sentence("WALK: of such of fewest STEPS")
    private static void ofSuchFewestSteps() {
        // North the way is as safe (each STEP is cut to 0), but longer by two STEPS.
        StiltHerds x = Desk.on("row 5 5 5;row 5 6 5;");
        x.walk(10, 12, 9, 1);
        dueWay(x, 10, 11, 12);
        StiltHerds wind = Desk.on("row 5 5 5;row 5 15 5;wind 0 10;");
        // Over the hill 2 STEPS of 10 and 10 each, round it 4 of 10.
        wind.walk(10, 12, 10, 1);
        dueWay(wind, 10, 11, 12);
        wind.walk(10, 12, 11, 1);
        dueWay(wind, 10, 0, 1, 2, 12);
    }

    @Sentence("WALK: of such the first, STEP by STEP north, east, south, west")
    private static void ofSuchTheFirst() {
        StiltHerds x = Desk.on("row 5 5 5;row 5 5 5;row 5 5 5;");
        x.walk(20, 2, 0, 1);
        dueWay(x, 20, 10, 0, 1, 2);
        x.walk(0, 22, 0, 1);
        dueWay(x, 0, 1, 2, 12, 22);
        x.walk(2, 20, 0, 1);
        dueWay(x, 2, 12, 22, 21, 20);
        x.walk(22, 0, 0, 1);
        dueWay(x, 22, 12, 2, 1, 0);
    }

    @Sentence("WALK: a WAY of least RISK through all 100 CELLS, the longest there is")
    private static void throughAllCells() {
        StringBuilder rows = new StringBuilder();
        for (int y = 0; y < 10; y++) {
            rows.append("row");
            for (int x = 0; x < 10; x++) {
                rows.append(' ').append(10 * y + (y % 2 == 0 ? x : 9 - x));
            }
            rows.append(';');
        }
        // To the next inch each STEP is a RISK of 1; any other STEP is more than the way round.
        StiltHerds x = Desk.on(rows.toString());
        DESK.due("RISK", x.risk(0, 90, 19, 0), 99);
        DESK.due("STEPS of the shortest", x.steps(0, 90, 19, 0), 9);
        for (int seed : SEEDS) {
            DESK.due("walk by " + seed, x.walk(0, 90, 19, seed), fall(seed, 99, 1));
            DESK.due("walk back by " + seed, x.walk(90, 0, 19, seed), fall(seed, 99, 1));
        }
        x.walk(0, 90, 19, 1);
        for (int i = 0; i < 100; i++) {
            DESK.due("way(" + i + ")", x.way(i), i / 10 % 2 == 0 ? i : 10 * (i / 10) + 9 - i % 10);
        }
        DESK.due("way(100)", x.way(100), -1);
    }

    @Sentence("43: the STEP (from 1) at which one falls; 0: none")
    private static void stepFromOne() {
        StiltHerds x = Desk.on("row 5 5 25;wind 1 99;");
        DESK.due("at the first", x.walk(1, 2, 99, 1), 1);
        DESK.due("at the second", x.walk(0, 2, 99, 1), 2);
        DESK.due("none", x.walk(0, 1, 99, 1), 0);
        DESK.due("a WAY of no STEPS", x.walk(2, 2, 99, 1), 0);
        x.day();
        DESK.due("by WIND of today", x.walk(0, 1, 0, 1), fall(1, 1, 99));
    }

    @Sentence("43: NONE: there is no WAY, no such ones")
    private static void walkOfNone() {
        StiltHerds x = Desk.on("row 5 1 5;row 1 1 5;water 0 5;water 1 1;");
        DESK.due("no WAY", x.walk(0, 2, 3, 1), -1);
        DESK.due("a WAY", x.walk(0, 2, 4, 1) >= 0, true);
        x.day();
        DESK.due("a WAY today", x.walk(0, 2, 3, 1) >= 0, true);
        StiltHerds y = plain();
        DESK.refusesCells("walk() from", at -> y.walk(at, 0, 0, 1));
        DESK.refusesCells("walk() to", at -> y.walk(0, at, 0, 1));
        DESK.refusesNumbers("walk() with", h -> y.walk(0, 0, h, 1));
        DESK.due("the last ones are such", y.walk(12, 0, 99, 1), 0);
    }

    @Sentence("44: Of WALKS by n (1 to 200) seeds (x, x and 1, ..) today how many fall")
    private static void fallsOfSeeds() {
        StiltHerds x = Desk.on("row 5 5 5 5 5 5;wind 0 7;wind 1 50;");
        for (int day = 0; day < 2; day++) {
            for (int seed : SEEDS) {
                for (int n : new int[] {1, 2, 3, 199, 200}) {
                    int due = 0;
                    for (int i = 0; i < n; i++) {
                        due += fall(seed + i, 5, day == 0 ? 7 : 50) > 0 ? 1 : 0;
                    }
                    DESK.due("falls of " + n + " from " + seed + " on DAY " + day, x.falls(0, 5, 3, n, seed), due);
                }
            }
            x.day();
        }
        DESK.due("all fall", Desk.on("row 5 99;").falls(0, 1, 99, 200, 1), 200);
        DESK.due("none falls", Desk.on("row 5 5;").falls(0, 1, 99, 200, 1), 0);
        DESK.due("a WAY of no STEPS", Desk.on("row 5 5;wind 0 99;").falls(1, 1, 99, 200, 1), 0);
    }

    @Sentence("44: NONE: not as told, no WAY")
    private static void fallsOfNone() {
        StiltHerds x = plain();
        DESK.refuses("falls() of", new int[] {0, -1, 201, 256, Integer.MIN_VALUE, Integer.MAX_VALUE}, n -> x.falls(0, 2, 0, n, 1));
        DESK.refusesCells("falls() from", at -> x.falls(at, 0, 0, 1, 1));
        DESK.refusesCells("falls() to", at -> x.falls(0, at, 0, 1, 1));
        DESK.refusesNumbers("falls() with", h -> x.falls(0, 0, h, 1, 1));
        DESK.due("the last ones are such", x.falls(12, 0, 99, 200, 1), 0);
        DESK.due("no WAY", Desk.on("row 5 5;door 1 0 3;").falls(0, 1, 4, 1, 1), -1);
        x.walk(0, 2, 0, 1);
        x.falls(10, 12, 0, 5, 1);
        dueWay(x, 0, 1, 2);
    }

    public static void main(String[] args) throws ReflectiveOperationException {
        DESK.runEach(RestEdgesTest.class);
    }
}
