/**
 * The boundary cases that the document names of the land, of ways and of signals, sentence by sentence, each in a test
 * of its own: what ==== 2 tells, and promises 6 to 25.
 */
public final class LandEdgesTest {
    private static final Desk DESK = new Desk();
    /** Three columns, two rows, two HERDS. */
    private static final String PLAIN = "row 5 5 5;row 5 5 5;herd a 0 0 1;herd b 2 1 2;wolf 0 0 1;";

    private static StiltHerds plain() {
        return Desk.on(PLAIN);
    }

    private static String text(StiltHerds x) {
        StringBuilder out = new StringBuilder();
        for (int i = 0; x.byteAt(i) != -1; i++) {
            out.append((char) x.byteAt(i));
        }
        return out.toString();
    }

    private static void dueText(StiltHerds x, int from, int to, int h, String want) {
        DESK.due("write(" + from + ", " + to + ")", x.write(from, to, h, 0), want.length());
        DESK.due("the text is " + text(x) + ", due is " + want, text(x).equals(want), true);
    }

    // ---- ==== 2

    @Sentence("WATER, WIND, FOG of a DAY: as told for it or the latest DAY ahead (0 without)")
    private static void latestDayAhead() {
        String[] sorts = {"water", "wind", "fog"};
        for (int sort = 0; sort < 3; sort++) {
            String w = sorts[sort];
            StiltHerds x = Desk.on(w + " 20 7;" + w + " 3 9;" + w + " 21 0;");
            DESK.due(w + " ahead of any told", x.on(0, sort), 0);
            DESK.due(w + " a DAY ahead of it", x.on(2, sort), 0);
            DESK.due(w + " on its DAY", x.on(3, sort), 9);
            DESK.due(w + " of the latest DAY ahead", x.on(19, sort), 9);
            DESK.due(w + " told again for a later DAY", x.on(20, sort), 7);
            DESK.due(w + " told as 0", x.on(29, sort), 0);
            DESK.due("another sort is not touched", x.on(20, (sort + 1) % 3), 0);
            DESK.due(w + " of none told", Desk.on("row 1 2;").on(29, sort), 0);
        }
    }

    @Sentence("STILTS of a HERD: HEADS by EACH (cut), MOST at most")
    private static void stiltsAreCut() {
        StiltHerds x = Desk.on("row 5 5;law 4 5;herd a 0 0 3;herd b 0 0 4;herd c 0 0 7;herd d 0 0 20;herd e 0 0 24;herd f 0 0 0;");
        int[] due = {0, 1, 1, 5, 5, 0};
        for (int h = 0; h < due.length; h++) {
            DESK.due("STILTS of HERD " + h, x.herd(h, 2), due[h]);
        }
    }

    @Sentence("EACH 1, MOST 99 without a law")
    private static void withoutALaw() {
        StiltHerds x = Desk.on("row 5 5;herd a 0 0 99;herd b 0 0 1;");
        DESK.due("EACH", x.count(2), 1);
        DESK.due("MOST", x.count(3), 99);
        DESK.due("STILTS of 99", x.herd(0, 2), 99);
        DESK.due("STILTS of 1", x.herd(1, 2), 1);
    }

    @Sentence("TIMBER of STILTS of h inches: 2 h, and 'timber'; 0 of none")
    private static void timberOfNone() {
        StiltHerds x = Desk.on("row 5 5;law 2 99;timber 7;herd a 0 0 2;herd b 0 0 1;herd c 0 0 0;");
        DESK.due("of 1 inch", x.herd(0, 3), 9);
        DESK.due("of STILTS of none, with a HEAD", x.herd(1, 3), 0);
        DESK.due("of STILTS of none, without HEADS", x.herd(2, 3), 0);
        DESK.due("without 'timber'", Desk.on("row 5 5;herd a 0 0 1;").herd(0, 3), 2);
        DESK.due("by MOST of 0", Desk.on("row 5 5;law 1 0;timber 7;herd a 0 0 9;").herd(0, 3), 0);
    }

    @Sentence("DEPTH of a CELL on a DAY: WATER less its ground, 0 at least")
    private static void depthIsZeroAtLeast() {
        StiltHerds x = Desk.on("row 5 6 7;row 0 99 4;water 0 6;");
        int[] cells = {0, 1, 2, 10, 11, 12};
        int[] due = {1, 0, 0, 6, 0, 2};
        for (int i = 0; i < cells.length; i++) {
            DESK.due("DEPTH of " + cells[i], x.cell(cells[i], 1), due[i]);
        }
    }

    @Sentence("one STANDS there, if DEPTH is h or less")
    private static void standsByDepth() {
        StiltHerds x = Desk.on("row 5 5;water 0 9;");
        DESK.due("DEPTH is h and 1", x.stands(0, 3, 0), 0);
        DESK.due("DEPTH is h", x.stands(0, 4, 0), 1);
        DESK.due("DEPTH is less", x.stands(0, 5, 0), 1);
        StiltHerds y = Desk.on("row 5 5;water 0 5;");
        DESK.due("h is 0, DEPTH is 0", y.stands(0, 0, 0), 1);
        StiltHerds z = Desk.on("row 0 0;water 0 99;");
        DESK.due("h is 98, DEPTH is 99", z.stands(0, 98, 0), 0);
        DESK.due("h is 99, DEPTH is 99", z.stands(0, 99, 0), 1);
    }

    @Sentence("one STANDS there, if a door's N is h or more")
    private static void standsByDoor() {
        StiltHerds x = Desk.on("row 5 5;row 5 5;door 0 0 4;door 1 0 0;door 0 1 99;");
        DESK.due("N is more", x.stands(0, 3, 0), 1);
        DESK.due("N is h", x.stands(0, 4, 0), 1);
        DESK.due("N is less", x.stands(0, 5, 0), 0);
        DESK.due("N is 0, h is 0", x.stands(1, 0, 0), 1);
        DESK.due("N is 0, h is 1", x.stands(1, 1, 0), 0);
        DESK.due("N is 99, h is 99", x.stands(10, 99, 0), 1);
        DESK.due("no door, h is 99", x.stands(11, 99, 0), 1);
    }

    @Sentence("one STANDS there, if mud's N is h or less")
    private static void standsByMud() {
        StiltHerds x = Desk.on("row 5 5;row 5 5;mud 0 0 4;mud 1 0 0;mud 0 1 99;");
        DESK.due("N is more", x.stands(0, 3, 0), 0);
        DESK.due("N is h", x.stands(0, 4, 0), 1);
        DESK.due("N is less", x.stands(0, 5, 0), 1);
        DESK.due("N is 0, h is 0", x.stands(1, 0, 0), 1);
        DESK.due("N is 99, h is 98", x.stands(10, 98, 0), 0);
        DESK.due("N is 99, h is 99", x.stands(10, 99, 0), 1);
        DESK.due("no mud, h is 0", x.stands(11, 0, 0), 1);
    }

    @Sentence("A STEP to a neighbour (north, east, south, west)")
    private static void neighboursAreFour() {
        StiltHerds x = Desk.on("row 1 1 1 1 1 1 1 1 1 1;row 1 1 1 1 1 1 1 1 1 1;row 1 1 1 1 1 1 1 1 1 1;");
        DESK.due("north", x.steps(11, 1, 0, 0), 1);
        DESK.due("east", x.steps(11, 12, 0, 0), 1);
        DESK.due("south", x.steps(11, 21, 0, 0), 1);
        DESK.due("west", x.steps(11, 10, 0, 0), 1);
        DESK.due("a slant", x.steps(11, 22, 0, 0), 2);
        DESK.due("the east edge is not next to the west edge of the row below", x.steps(9, 10, 0, 0), 10);
        DESK.due("the west edge is not next to the east edge of the row above", x.steps(20, 19, 0, 0), 10);
        DESK.due("from edge to edge of a row", x.steps(0, 9, 0, 0), 9);
        DESK.due("from edge to edge of a column", x.steps(0, 20, 0, 0), 2);
        DESK.due("all CELLS", x.reach(0, 0, 0), 30);
    }

    @Sentence("A STEP is one to where one STANDS")
    private static void stepsToWhereOneStands() {
        StiltHerds x = Desk.on("row 5 1 5;water 0 5;");
        DESK.due("DEPTH is h", x.steps(0, 2, 4, 0), 2);
        DESK.due("DEPTH is more", x.steps(0, 2, 3, 0), -1);
        StiltHerds y = Desk.on("row 5 5 5;door 1 0 4;");
        DESK.due("a door as high", y.steps(0, 2, 4, 0), 2);
        DESK.due("a door too low", y.steps(0, 2, 5, 0), -1);
        StiltHerds z = Desk.on("row 5 5 5;mud 1 0 4;");
        DESK.due("mud as deep", z.steps(0, 2, 4, 0), 2);
        DESK.due("mud too deep", z.steps(0, 2, 3, 0), -1);
    }

    @Sentence("RISK of it: WIND, and the inches between both grounds times h by 10 (cut)")
    private static void riskIsCutStepByStep() {
        StiltHerds x = Desk.on("row 0 3 6 3;wind 1 4;");
        DESK.due("9 by 10", x.risk(0, 1, 3, 0), 0);
        DESK.due("12 by 10", x.risk(0, 1, 4, 0), 1);
        DESK.due("each STEP is cut by itself", x.risk(0, 2, 3, 0), 0);
        DESK.due("down is as up", x.risk(2, 3, 7, 0), 2);
        DESK.due("WIND is not cut", x.risk(0, 1, 3, 1), 4);
        DESK.due("WIND for each STEP", x.risk(0, 3, 4, 1), 3 * 5);
        StiltHerds y = Desk.on("row 0 99;wind 0 99;");
        DESK.due("the greatest of all", y.risk(0, 1, 99, 0), 99 + 980);
    }

    @Sentence("A WAY: from a CELL where one STANDS")
    private static void wayFromWhereOneStands() {
        StiltHerds x = Desk.on("row 1 5;water 0 5;");
        DESK.due("steps() from where one does not STAND", x.steps(0, 1, 3, 0), -1);
        DESK.due("steps() from there to itself", x.steps(0, 0, 3, 0), -1);
        DESK.due("risk() from there", x.risk(0, 1, 3, 0), -1);
        DESK.due("risk() from there to itself", x.risk(0, 0, 3, 0), -1);
        DESK.due("write() from there", x.write(0, 1, 3, 0), -1);
        DESK.due("ladders() from there", x.ladders(0, 1, 3, 0), -1);
        DESK.due("reach() from there", x.reach(0, 3, 0), 0);
        DESK.due("passes() from there", x.passes(0, 1, 0, 1), 4);
        DESK.due("walk() from there", x.walk(0, 1, 3, 1), -1);
        DESK.due("falls() from there", x.falls(0, 1, 3, 1, 1), -1);
        DESK.due("where one STANDS", x.steps(0, 1, 4, 0), 1);
    }

    @Sentence("A WAY of fewest STEPS; of least RISK together")
    private static void fewestAndLeast() {
        // Over the hill it is 2 STEPS, round it 4.
        StiltHerds x = Desk.on("row 1 9 1;row 1 1 1;");
        DESK.due("fewest STEPS", x.steps(0, 2, 10, 0), 2);
        DESK.due("least RISK", x.risk(0, 2, 10, 0), 0);
    }

    @Sentence("PASSES of two CELLS on a DAY: STILTS (0 to 99)")
    private static void passesFrom0To99() {
        StiltHerds x = Desk.on("row 0 0;water 1 99;water 2 63;water 3 64;");
        DESK.due("all of them", x.passes(0, 1, 0, 0), 100);
        DESK.due("the least is 0", x.passes(0, 1, 0, 1), 0);
        DESK.due("the greatest is 99", x.passes(0, 1, 0, 2), 99);
        DESK.due("99 alone", x.passes(0, 1, 1, 0), 1);
        DESK.due("99 is the least", x.passes(0, 1, 1, 1), 99);
        DESK.due("63 to 99", x.passes(0, 1, 2, 0), 37);
        DESK.due("63 is the least", x.passes(0, 1, 2, 1), 63);
        DESK.due("64 to 99", x.passes(0, 1, 3, 0), 36);
        DESK.due("64 is the least", x.passes(0, 1, 3, 1), 64);
        StiltHerds round = Desk.on("row 5 5 5;row 5 5 5;door 1 0 10;");
        DESK.due("the low ones straight on, the high ones round the door", round.passes(0, 2, 0, 0), 100);
        StiltHerds y = Desk.on("row 0 0 0;door 1 0 0;");
        DESK.due("0 alone", y.passes(0, 2, 0, 0), 1);
        DESK.due("0 is the greatest", y.passes(0, 2, 0, 2), 0);
    }

    @Sentence("PASSES: STILTS by which there is a WAY: no ladder is of use, one goes with the same all along")
    private static void passesWithoutLadders() {
        StiltHerds x = Desk.on("row 5 5 5;mud 0 0 50;ladder 0 0;ladder 1 0;door 2 0 40;herd a 0 0 60;herd b 0 0 45;herd c 0 0 30;");
        DESK.due("none passes", x.passes(0, 2, 0, 0), 0);
        DESK.due("to the ladder", x.passes(0, 1, 0, 0), 50);
        DESK.due("from the ladder", x.passes(1, 2, 0, 0), 41);
        DESK.due("on a ladder", x.passes(0, 0, 0, 1), 50);
        DESK.due("who()", x.who(0, 2), 0);
        DESK.due("low()", x.low(0, 2), -1);
        DESK.due("high()", x.high(2, 2), -1);
        DESK.due("by ladders one does", x.ladders(1, 2, 99, 0), 1);
    }

    /** Ten rows of ten, hills and pools among them, so that unlike STILTS go by unlike ways. */
    private static StiltHerds wide() {
        StringBuilder text = new StringBuilder();
        for (int y = 0; y < 10; y++) {
            text.append("row");
            for (int x = 0; x < 10; x++) {
                text.append(' ').append((x * 37 + y * 61 + x * y * 13) % 97);
            }
            text.append(';');
        }
        return Desk.on(text + "water 0 70;water 1 96;water 2 30;door 4 4 80;door 8 9 66;mud 9 8 60;mud 3 5 20;ladder 9 9;ladder 0 0;");
    }

    @Sentence("PASSES: for each of 0 to 99 as steps() tells, on the widest MOOR")
    private static void passesOnTheWidest() {
        int[] cells = {0, 9, 44, 50, 55, 90, 98, 99};
        for (int from : cells) {
            for (int to : cells) {
                StiltHerds x = wide();
                int many = 0;
                int least = -1;
                int greatest = -1;
                for (int h = 0; h <= 99; h++) {
                    if (x.steps(from, to, h, 0) >= 0) {
                        many++;
                        least = least < 0 ? h : least;
                        greatest = h;
                    }
                }
                DESK.due("how many from " + from + " to " + to, x.passes(from, to, 0, 0), many);
                x.passes(99 - from, to, 2, 0);
                DESK.due("the least from " + from + " to " + to, x.passes(from, to, 0, 1), least);
                DESK.due("the greatest from " + from + " to " + to, x.passes(from, to, 0, 2), greatest);
            }
        }
    }

    @Sentence("BY LADDERS: any STILTS from 0 to 99, each of them, on the widest MOOR")
    private static void laddersOfEachHeight() {
        String flat = "row 5 5 5 5 5 5 5 5 5 5;".repeat(10);
        StiltHerds plain = Desk.on(flat + "ladder 5 5;");
        StiltHerds all = wide();
        for (int h = 0; h <= 99; h++) {
            DESK.due("over flat ground with " + h, plain.ladders(0, 99, h, 0), 18);
            int straight = all.steps(55, 44, h, 2);
            DESK.due("where no ladder shortens it, with " + h, all.ladders(55, 44, h, 2) == straight || straight == -1, true);
            StiltHerds one = Desk.on(flat + "ladder 9 8;door 9 9 " + h + ";mud 9 9 " + h + ";");
            DESK.due("one height alone, " + h, one.ladders(0, 99, 99 - h, 0), 18);
        }
    }

    @Sentence("BY LADDERS: at any CELL with a ladder on it to which one came one may go on with any STILTS from 0 to 99")
    private static void laddersChangeStilts() {
        StiltHerds up = Desk.on("row 99 99 0;ladder 1 0;water 0 99;");
        DESK.due("up to 99", up.ladders(0, 2, 0, 0), 2);
        StiltHerds down = Desk.on("row 5 5 5;ladder 1 0;door 2 0 0;");
        DESK.due("down to 0", down.ladders(0, 2, 99, 0), 2);
        StiltHerds none = Desk.on("row 5 5 5;door 2 0 0;");
        DESK.due("without a ladder", none.ladders(0, 2, 99, 0), -1);
        // The ladder lies behind, off the straight way: one goes there and comes back.
        StiltHerds back = Desk.on("row 5 5 5;ladder 0 0;door 2 0 0;");
        DESK.due("back from the ladder", back.ladders(1, 2, 99, 0), 3);
        DESK.due("with STILTS as they are it is near", back.ladders(1, 2, 0, 0), 1);
        StiltHerds two = Desk.on("row 5 5 5 5 5;ladder 0 0;door 1 0 0;ladder 2 0;mud 3 0 50;");
        DESK.due("two ladders, one behind the other", two.ladders(0, 4, 20, 0), 4);
    }

    @Sentence("BY LADDERS: without one on the way the STILTS are those at first")
    private static void withoutLaddersStiltsStay() {
        for (int only : new int[] {0, 35, 36, 63, 64, 99}) {
            StiltHerds x = Desk.on("row 5 5;door 1 0 " + only + ";mud 1 0 " + only + ";");
            for (int h = 0; h <= 99; h++) {
                DESK.due("with " + h + " where " + only + " alone STANDS", x.ladders(0, 1, h, 0), h == only ? 1 : -1);
            }
        }
    }

    @Sentence("BY LADDERS: the first one, too")
    private static void ladderOnTheFirstCell() {
        StiltHerds x = Desk.on("row 5 5;ladder 0 0;door 1 0 0;");
        DESK.due("from the ladder", x.ladders(0, 1, 99, 0), 1);
        StiltHerds y = Desk.on("row 5 5;ladder 1 0;door 1 0 0;");
        DESK.due("one must STAND on the last CELL as one comes", y.ladders(0, 1, 99, 0), -1);
    }

    @Sentence("BY LADDERS: one STANDS on it as one comes")
    private static void onLaddersOneStands() {
        StiltHerds x = Desk.on("row 5 5 5;ladder 1 0;door 1 0 3;door 2 0 0;");
        DESK.due("with 3 one comes to the ladder", x.ladders(0, 2, 3, 0), 2);
        DESK.due("with 4 one does not", x.ladders(0, 2, 4, 0), -1);
        StiltHerds y = Desk.on("row 5 5;ladder 0 0;mud 0 0 3;");
        DESK.due("with 2 one does not STAND on the first", y.ladders(0, 0, 2, 0), -1);
        DESK.due("nor goes on from it", y.ladders(0, 1, 2, 0), -1);
        DESK.due("with 3 one does", y.ladders(0, 1, 3, 0), 1);
    }

    @Sentence("BY LADDERS: with which one STANDS there")
    private static void onlyStiltsThatStandOnTheLadder() {
        StiltHerds x = Desk.on("row 5 5 5;ladder 0 0;door 0 0 6;mud 1 0 6;");
        DESK.due("6 STANDS on both", x.ladders(0, 2, 0, 0), 2);
        StiltHerds y = Desk.on("row 5 5 5;ladder 0 0;door 0 0 5;mud 1 0 6;");
        DESK.due("6 does not STAND on the ladder", y.ladders(0, 2, 0, 0), -1);
        StiltHerds z = Desk.on("row 5 5 5;ladder 0 0;mud 0 0 4;door 1 0 3;");
        DESK.due("3 does not STAND in its mud", z.ladders(0, 2, 9, 0), -1);
    }

    @Sentence("EYE of a HERD: its ground and STILTS")
    private static void eyes() {
        StiltHerds x = Desk.on("row 0 99;law 2 40;herd a 0 0 0;herd b 1 0 99;");
        DESK.due("of nothing", x.herd(0, 4), 0);
        DESK.due("of 99 and 40", x.herd(1, 4), 139);
    }

    @Sentence("SEES: two HERDS on unlike CELLS")
    private static void onUnlikeCells() {
        StiltHerds x = Desk.on("row 5 5;herd a 0 0 1;herd b 0 0 1;herd c 1 0 1;");
        DESK.due("not those on the same CELL, nor itself", x.sees(0), 4);
        DESK.due("from the other CELL both", x.sees(2), 3);
    }

    @Sentence("SEES: in one row, column or slant")
    private static void inOneLine() {
        String rows = "row 5 5 5 5;".repeat(4);
        StiltHerds x = Desk.on(rows + "herd a 1 1 1;herd row 3 1 1;".replace("herd row", "herd r")
            + "herd c 1 3 1;herd s 3 3 1;herd t 0 2 1;herd k 3 2 1;herd l 2 3 1;herd u 0 0 1;");
        DESK.due("row, column and slants, but no knight's leaps", x.sees(0), 2 | 4 | 8 | 16 | 128);
        StiltHerds y = Desk.on("row 5 5 5 5 5 5 5 5 5 5;row 5 5 5 5 5 5 5 5 5 5;herd a 9 0 1;herd b 0 1 1;");
        DESK.due("the ends of two rows are in no line", y.sees(0), 0);
    }

    @Sentence("SEES: both EYES above FOG")
    private static void aboveFog() {
        StiltHerds x = Desk.on("row 5 5;herd a 0 0 2;herd b 1 0 3;fog 0 6;fog 1 7;fog 2 8;");
        DESK.due("both above", x.sees(0), 2);
        x.day();
        DESK.due("one as high as FOG: not seen", x.sees(1), 0);
        DESK.due("one as high as FOG: sees not", x.sees(0), 0);
        x.day();
        DESK.due("both not above", x.sees(0), 0);
        StiltHerds y = Desk.on("row 0 0;herd a 0 0 0;herd b 1 0 1;");
        DESK.due("an EYE of 0 is not above FOG of 0", y.sees(1), 0);
    }

    @Sentence("SEES: no ground on a CELL between is as high as the lower EYE or higher")
    private static void groundBetween() {
        for (int hill = 6; hill <= 8; hill++) {
            StiltHerds x = Desk.on("row 5 " + hill + " 5;herd a 0 0 2;herd b 2 0 50;");
            DESK.due("a hill of " + hill + " below EYES of 7 and 55", x.sees(0), hill < 7 ? 2 : 0);
            DESK.due("and from there", x.sees(1), hill < 7 ? 1 : 0);
        }
        StiltHerds ends = Desk.on("row 5 1 50;herd a 0 0 2;herd b 2 0 1;");
        DESK.due("the CELLS at the ends are not between", ends.sees(0), 2);
        StiltHerds next = Desk.on("row 5 50;herd a 0 0 2;herd b 1 0 1;");
        DESK.due("nothing is between neighbours", next.sees(0), 2);
        StiltHerds herds = Desk.on("row 5 5 5;herd a 0 0 2;herd b 1 0 90;herd c 2 0 2;");
        DESK.due("a HERD between does not hide", herds.sees(0), 6);
        StiltHerds last = Desk.on("row 5 1 1 9 5;herd a 0 0 2;herd b 4 0 2;");
        DESK.due("the last CELL between counts", last.sees(0), 0);
        StiltHerds first = Desk.on("row 5 9 1 1 5;herd a 0 0 2;herd b 4 0 2;");
        DESK.due("the first CELL between counts", first.sees(0), 0);
    }

    @Sentence("A HERD SEES a thing of so many inches on a CELL likewise (its EYE the ground and these)")
    private static void thingsAreSeenLikewise() {
        StiltHerds x = Desk.on("row 5 7 5;row 5 5 5;herd a 0 0 9;fog 1 6;");
        DESK.due("a thing as high as the hill", x.saw(2, 2), 0);
        DESK.due("a thing above the hill", x.saw(2, 3), 1);
        DESK.due("in no line", x.saw(12, 50), 0);
        x.day();
        DESK.due("a thing as high as FOG", x.saw(10, 1), 0);
        DESK.due("a thing above FOG", x.saw(10, 2), 1);
        StiltHerds y = Desk.on("row 5 7 5;herd a 0 0 2;fog 1 6;fog 2 7;");
        DESK.due("the EYE is the lower one", y.saw(2, 99), 0);
        DESK.due("on the hill itself", y.saw(1, 0), 1);
        y.day();
        DESK.due("the EYE is above FOG", y.saw(1, 0), 1);
        y.day();
        DESK.due("the EYE is as high as FOG", y.saw(1, 99), 0);
    }

    @Sentence("HANDED ON: the fewest HERDS by which a signal comes from one to another (each SEES the next)")
    private static void fewestAreHanded() {
        // Round the ring it is two one way and three the other; the hills of 9 shut the slants.
        StiltHerds x = Desk.on("row 5 5 5;row 5 9 5;row 5 5 5;herd a 0 0 1;herd b 2 0 1;herd c 2 2 1;herd d 0 2 1;herd e 0 1 1;");
        DESK.due("at once", x.handed(0, 1), 1);
        DESK.due("by one", x.handed(0, 2), 2);
        DESK.due("a HERD in the row between does not lengthen it", x.handed(0, 3), 1);
        DESK.due("by two", x.handed(4, 1), 2);
        DESK.due("by one from the side", x.handed(4, 2), 2);
    }

    // ---- promises 6 to 13

    @Sentence("6: Of a CELL: the door's N (NONE: no door), mud's N (NONE), HERDS there, as bits, the wolf (1, 0)")
    private static void cellTells() {
        StiltHerds x = Desk.on("row 5 6;row 7 8;door 0 0 0;mud 1 0 0;herd a 1 1 1;herd b 0 0 1;herd c 1 1 0;wolf 1 0 3;water 0 7;");
        int[][] due = {{5, 2, 0, -1, 2, 0}, {6, 1, -1, 0, 0, 1}, {7, 0, -1, -1, 0, 0}, {8, 0, -1, -1, 5, 0}};
        int[] cells = {0, 1, 10, 11};
        for (int i = 0; i < cells.length; i++) {
            for (int what = 0; what < 6; what++) {
                DESK.due("cell(" + cells[i] + ", " + what + ")", x.cell(cells[i], what), due[i][what]);
            }
        }
        StiltHerds all = Desk.on("row 5 5;herd a 0 0 1;herd b 0 0 1;herd c 0 0 1;herd d 0 0 1;herd e 0 0 1;herd f 0 0 1;"
            + "herd g 0 0 1;herd h 0 0 1;");
        DESK.due("all eight HERDS", all.cell(0, 4), 255);
        DESK.due("no wolf told", all.cell(0, 5), 0);
    }

    @Sentence("6: NoSuchElementException: no such ones")
    private static void noSuchCell() {
        StiltHerds x = plain();
        for (int at : Desk.NO_CELLS) {
            for (int what = 0; what < 6; what++) {
                DESK.noCell(x, at, what);
            }
        }
        for (int what : new int[] {-1, 6, 7, Integer.MIN_VALUE, Integer.MAX_VALUE}) {
            DESK.noCell(x, 0, what);
        }
        DESK.noCell(new StiltHerds(), 0, 0);
        DESK.due("the last CELL is one", x.cell(12, 0), 5);
    }

    @Sentence("7: NoSuchElementException: no such ones")
    private static void noSuchHerd() {
        StiltHerds x = plain();
        for (int h : Desk.NO_HERDS) {
            for (int what = 0; what < 5; what++) {
                DESK.noHerd(x, h, what);
            }
        }
        for (int what : new int[] {-1, 5, 6, Integer.MIN_VALUE, Integer.MAX_VALUE}) {
            DESK.noHerd(x, 0, what);
        }
        DESK.noHerd(new StiltHerds(), 0, 0);
        DESK.due("the last HERD is one", x.herd(1, 4), 7);
    }

    @Sentence("A call that throws changes nothing")
    private static void throwingChangesNothing() {
        StiltHerds x = plain();
        Desk.plan(x, "day;day;");
        x.judge(0);
        x.write(0, 2, 0, 0);
        x.walk(0, 1, 0, 1);
        x.seats(9);
        x.day();
        x.trade(0, 1, 1);
        Desk.moor(x, "row 5;");
        x.feed(1, 2, 3, 4, 5);
        DESK.noCell(x, 99, 0);
        DESK.noCell(x, 0, 9);
        DESK.noHerd(x, 9, 0);
        DESK.noHerd(x, 0, 9);
        int[] due = {3, 2, 1, 99, 0, 0, 2, 1, 2, 20, 0};
        for (int what = 0; what < due.length; what++) {
            DESK.due("count(" + what + ")", x.count(what), due[what]);
        }
        DESK.due("fault()", x.fault(), 4);
        DESK.due("judged()", x.judged(2), 2);
        DESK.due("byteAt()", x.byteAt(1), 'e');
        DESK.due("way()", x.way(1), 1);
        DESK.due("seat()", x.seat(1), 1);
        DESK.due("HEADS", x.herd(0, 1), 2);
        DESK.due("undo()", x.undo(), 1);
    }

    @Sentence("8: NONE: no such ones (0 to 29)")
    private static void noSuchDay() {
        StiltHerds x = Desk.on("water 0 7;wind 0 7;fog 0 7;");
        for (int sort = 0; sort < 3; sort++) {
            int what = sort;
            DESK.due("the first DAY", x.on(0, what), 7);
            DESK.due("the last DAY", x.on(29, what), 7);
            DESK.refusesDays("on()", day -> x.on(day, what));
        }
        DESK.refuses("on() by what", new int[] {-1, 3, 4, Integer.MIN_VALUE, Integer.MAX_VALUE}, what -> x.on(0, what));
    }

    @Sentence("9: TIMBER of all HERDS: 0 without one")
    private static void timberOfAll() {
        DESK.due("without a MOOR", new StiltHerds().timber(), 0);
        DESK.due("without HERDS", Desk.on("row 5 5;timber 9;").timber(), 0);
        DESK.due("of the first and the last", Desk.on("row 5 5;timber 9;herd a 0 0 1;herd b 0 0 0;herd c 0 0 2;").timber(), 24);
        DESK.due("of eight", Desk.on("row 5 5;timber 99;herd a 0 0 99;herd b 0 0 99;herd c 0 0 99;herd d 0 0 99;herd e 0 0 99;"
            + "herd f 0 0 99;herd g 0 0 99;herd h 0 0 99;").timber(), 8 * 297);
    }

    @Sentence("10: HEADS of all HERDS: 0 without one")
    private static void headsOfAll() {
        DESK.due("without a MOOR", new StiltHerds().flock(), 0);
        DESK.due("without HERDS", Desk.on("row 5 5;").flock(), 0);
        DESK.due("of eight", Desk.on("row 5 5;herd a 0 0 99;herd b 0 0 99;herd c 0 0 99;herd d 0 0 99;herd e 0 0 99;"
            + "herd f 0 0 99;herd g 0 0 99;herd h 0 0 99;").flock(), 792);
    }

    @Sentence("11: of like ones the first by Y, then X")
    private static void deepestOfLikeOnes() {
        StiltHerds x = Desk.on("row 9 9 4;row 9 3 9;row 3 9 9;water 1 6;water 2 4;water 3 3;");
        DESK.due("all of DEPTH 0: the first", x.deepest(0), 0);
        DESK.due("by Y ahead of X", x.deepest(1), 11);
        DESK.due("one of 1 inch", x.deepest(2), 11);
        DESK.due("none above 0", x.deepest(3), 0);
        StiltHerds y = Desk.on("row 9 3 3;row 3 3 9;water 0 6;");
        DESK.due("then by X", y.deepest(0), 1);
        DESK.due("the last CELL", Desk.on("row 9 9;row 9 8;water 0 10;").deepest(29), 11);
    }

    @Sentence("11: NONE: no CELLS, no such DAY")
    private static void deepestOfNone() {
        DESK.due("no MOOR", new StiltHerds().deepest(0), -1);
        DESK.due("a MOOR without rows", Desk.on("water 0 9;").deepest(0), -1);
        StiltHerds x = plain();
        DESK.refusesDays("deepest()", day -> x.deepest(day));
        DESK.due("the last DAY is one", x.deepest(29), 0);
    }

    @Sentence("12: Other HERDS to whose CELLS a HERD can come today in n (0 to 99) STEPS or fewer, as bits")
    private static void nearInSteps() {
        StiltHerds x = Desk.on("row 5 5 5 5;row 5 0 0 0;water 0 4;water 1 6;herd a 0 0 0;herd b 3 0 0;herd c 0 0 0;herd d 2 0 0;"
            + "herd e 3 1 0;");
        DESK.due("in 0: those on its CELL, not itself", x.near(0, 0), 4);
        DESK.due("in 1", x.near(0, 1), 4);
        DESK.due("in 2", x.near(0, 2), 4 | 8);
        DESK.due("in 3", x.near(0, 3), 2 | 4 | 8);
        DESK.due("in 99, but not where it can't STAND", x.near(0, 99), 2 | 4 | 8);
        DESK.due("one that does not STAND comes to none", x.near(4, 99), 0);
        x.day();
        DESK.due("today", x.near(0, 99), 0);
        x.trade(0, 1, 1);
        DESK.due("by its STILTS", x.near(0, 99), 2 | 4 | 8);
        StiltHerds alone = Desk.on("row 5 0;water 0 5;herd a 0 0 1;herd b 0 0 1;");
        DESK.due("on a CELL that it can't leave", alone.near(0, 0), 2);
        DESK.due("HERD 0 as the other one", alone.near(1, 0), 1);
        StiltHerds far = Desk.on("row 5 5 5 5 5 5 5 5 5 5;".repeat(10) + "herd a 0 0 1;herd b 9 9 1;");
        DESK.due("in 17", far.near(0, 17), 0);
        DESK.due("in 18", far.near(0, 18), 2);
    }

    @Sentence("12: NONE: no such ones")
    private static void nearOfNoSuch() {
        StiltHerds x = plain();
        DESK.refusesHerds("near() of HERD", h -> x.near(h, 1));
        DESK.refusesNumbers("near() in", n -> x.near(0, n));
        DESK.due("99 is one", x.near(0, 99), 2);
        DESK.due("the last HERD is one", x.near(1, 0), 0);
    }

    @Sentence("13: NONE: no such ones (h 0 to 99)")
    private static void standsOfNoSuch() {
        StiltHerds x = plain();
        DESK.refusesCells("stands() on", at -> x.stands(at, 0, 0));
        DESK.refusesNumbers("stands() with", h -> x.stands(0, h, 0));
        DESK.refusesDays("stands() on DAY", day -> x.stands(0, 0, day));
        DESK.due("0 is one", x.stands(0, 0, 0), 1);
        DESK.due("99 is one", x.stands(12, 99, 29), 1);
    }

    // ---- promises 14 to 21

    @Sentence("14: NONE: there is none")
    private static void stepsOfNoWay() {
        StiltHerds x = Desk.on("row 5 0 5;water 0 5;water 1 4;");
        DESK.due("no WAY", x.steps(0, 2, 4, 0), -1);
        DESK.due("a WAY", x.steps(0, 2, 5, 0), 2);
        DESK.due("a WAY on another DAY", x.steps(0, 2, 4, 1), 2);
        DESK.due("to itself", x.steps(2, 2, 4, 0), 0);
        DESK.due("the longest of all", Desk.on("row 5 5 5 5 5 5 5 5 5 5;".repeat(10)).steps(0, 99, 0, 0), 18);
    }

    @Sentence("14: NONE: no such ones")
    private static void stepsOfNoSuch() {
        StiltHerds x = plain();
        DESK.refusesCells("steps() from", at -> x.steps(at, 0, 0, 0));
        DESK.refusesCells("steps() to", at -> x.steps(0, at, 0, 0));
        DESK.refusesNumbers("steps() with", h -> x.steps(0, 0, h, 0));
        DESK.refusesDays("steps() on", day -> x.steps(0, 0, 0, day));
        DESK.due("all at their most", x.steps(0, 12, 99, 29), 3);
    }

    @Sentence("15: RISK of a WAY of least RISK; NONE, likewise")
    private static void riskOfNone() {
        StiltHerds x = Desk.on("row 5 0 5;row 5 5 5;water 0 5;wind 0 9;door 0 1 3;");
        DESK.due("no WAY", x.risk(0, 2, 4, 0), -1);
        DESK.due("to where one does not STAND", x.risk(0, 1, 4, 0), -1);
        DESK.due("a WAY by the door", x.risk(0, 2, 3, 0), 36);
        DESK.due("a WAY through the water", x.risk(0, 2, 5, 0), 2 * (9 + 2));
        DESK.due("to itself", x.risk(0, 0, 4, 0), 0);
        DESK.refusesCells("risk() from", at -> x.risk(at == 20 || at == 12 ? 30 : at, 0, 0, 0));
        DESK.refusesCells("risk() to", at -> x.risk(0, at, 0, 0));
        DESK.refusesNumbers("risk() with", h -> x.risk(0, 0, h, 0));
        DESK.refusesDays("risk() on", day -> x.risk(0, 0, 0, day));
    }

    @Sentence("16: CELL i of the WAY of the latest walk() that was not NONE")
    private static void wayOfTheLatestWalk() {
        StiltHerds x = Desk.on("row 5 5 5;row 5 5 5;water 1 9;wind 0 99;");
        x.walk(10, 2, 0, 1);
        int[] due = {10, 0, 1, 2, -1};
        for (int i = 0; i < due.length; i++) {
            DESK.due("way(" + i + "), of one who fell, too", x.way(i), due[i]);
        }
        x.walk(0, 30, 0, 1);
        x.falls(0, 1, 0, 1, 1);
        x.day();
        DESK.due("a walk() that is NONE", x.walk(0, 1, 0, 1), -1);
        DESK.due("leaves it", x.way(3), 2);
        x.walk(12, 11, 9, 1);
        DESK.due("a shorter one", x.way(0), 12);
        DESK.due("its end", x.way(1), 11);
        DESK.due("nothing of the longer one is left", x.way(2), -1);
        x.walk(1, 1, 9, 1);
        DESK.due("a WAY of no STEPS has one CELL", x.way(0), 1);
        DESK.due("and no more", x.way(1), -1);
    }

    @Sentence("16: NONE: none such, or ahead of any")
    private static void wayOfNone() {
        StiltHerds x = plain();
        DESK.due("ahead of any", x.way(0), -1);
        x.walk(0, 30, 0, 1);
        DESK.due("ahead of any that was not NONE", x.way(0), -1);
        x.walk(0, 1, 0, 1);
        DESK.refuses("way()", new int[] {-1, 2, 99, 100, Integer.MIN_VALUE, Integer.MAX_VALUE}, i -> x.way(i));
        // A comb of walls, so that the only WAY takes 59 CELLS.
        StiltHerds snake = Desk.on("row 1 1 1 1 1 1 1 1 1 1;row 0 0 0 0 0 0 0 0 0 1;row 1 1 1 1 1 1 1 1 1 1;"
            + "row 1 0 0 0 0 0 0 0 0 0;row 1 1 1 1 1 1 1 1 1 1;row 0 0 0 0 0 0 0 0 0 1;row 1 1 1 1 1 1 1 1 1 1;"
            + "row 1 0 0 0 0 0 0 0 0 0;row 1 1 1 1 1 1 1 1 1 1;row 0 0 0 0 0 0 0 0 0 1;water 0 1;");
        DESK.due("a long WAY", snake.walk(0, 99, 0, 1), 0);
        DESK.due("its last CELL", snake.way(54), 99);
        DESK.due("behind it", snake.way(55), -1);
    }

    @Sentence("17: NONE: there is none, no such ones")
    private static void laddersOfNone() {
        StiltHerds x = Desk.on("row 5 5 5;row 5 5 5;ladder 1 0;door 2 0 0;door 1 1 0;door 2 1 99;");
        DESK.due("to itself", x.ladders(0, 0, 99, 0), 0);
        DESK.due("by a ladder", x.ladders(0, 2, 99, 0), 2);
        DESK.due("none", Desk.on("row 5 5 5;door 2 0 0;").ladders(0, 2, 1, 0), -1);
        StiltHerds y = plain();
        DESK.refusesCells("ladders() from", at -> y.ladders(at, 0, 0, 0));
        DESK.refusesCells("ladders() to", at -> y.ladders(0, at, 0, 0));
        DESK.refusesNumbers("ladders() with", h -> y.ladders(0, 0, h, 0));
        DESK.refusesDays("ladders() on", day -> y.ladders(0, 0, 0, day));
        DESK.due("all at their most", y.ladders(0, 12, 99, 29), 3);
    }

    @Sentence("18: of such ways the first, STEP by STEP north, east, south, west")
    private static void firstOfShortestWays() {
        StiltHerds x = Desk.on("row 5 5 5;row 5 5 5;row 5 5 5;");
        dueText(x, 20, 2, 0, "nnee");
        dueText(x, 0, 22, 0, "eess");
        dueText(x, 2, 20, 0, "ssww");
        dueText(x, 22, 0, 0, "nnww");
        StiltHerds y = Desk.on("row 5 5 5;row 0 5 5;row 5 5 5;water 0 5;");
        dueText(y, 20, 2, 0, "enne");
        dueText(y, 0, 22, 0, "eess");
    }

    @Sentence("18: n, e, s or w for each STEP: how many bytes")
    private static void bytesForSteps() {
        StiltHerds x = Desk.on("row 5 5;row 5 5;");
        dueText(x, 10, 0, 0, "n");
        dueText(x, 0, 1, 0, "e");
        dueText(x, 0, 10, 0, "s");
        dueText(x, 1, 0, 0, "w");
        dueText(x, 0, 0, 0, "");
    }

    @Sentence("18: NONE: there is none, no such ones")
    private static void writeOfNone() {
        StiltHerds x = Desk.on("row 5 5 5;row 5 5 5;water 1 6;");
        DESK.due("a text", x.write(0, 2, 0, 0), 2);
        DESK.due("no WAY", x.write(0, 1, 0, 1), -1);
        DESK.refusesCells("write() from", at -> x.write(at, 0, 0, 0));
        DESK.refusesCells("write() to", at -> x.write(0, at, 0, 0));
        DESK.refusesNumbers("write() with", h -> x.write(0, 0, h, 0));
        DESK.refusesDays("write() on", day -> x.write(0, 0, 0, day));
        DESK.due("the text made last stays", text(x).equals("ee"), true);
    }

    @Sentence("19: NONE: there is none such")
    private static void byteOfNone() {
        StiltHerds x = plain();
        DESK.due("ahead of any text", x.byteAt(0), -1);
        x.write(0, 12, 0, 0);
        DESK.due("the first byte", x.byteAt(0), 'e');
        DESK.due("the last byte", x.byteAt(2), 's');
        DESK.refuses("byteAt()", new int[] {-1, 3, 4, 99, 100, Integer.MIN_VALUE, Integer.MAX_VALUE}, i -> x.byteAt(i));
        x.write(0, 1, 0, 0);
        DESK.due("a shorter text", x.byteAt(0), 'e');
        DESK.due("nothing of the longer one is left", x.byteAt(1), -1);
        x.write(1, 1, 0, 0);
        DESK.due("a text of no bytes", x.byteAt(0), -1);
    }

    @Sentence("20: NONE: none (1, 2), no such ones")
    private static void passesOfNone() {
        StiltHerds x = Desk.on("row 5 5 5;row 5 5 5;door 1 0 3;mud 1 0 4;");
        DESK.due("how many: 0", x.passes(0, 1, 0, 0), 0);
        DESK.due("the least", x.passes(0, 1, 0, 1), -1);
        DESK.due("the greatest", x.passes(0, 1, 0, 2), -1);
        DESK.refusesCells("passes() from", at -> x.passes(at, 0, 0, 0));
        DESK.refusesCells("passes() to", at -> x.passes(0, at, 0, 0));
        DESK.refusesDays("passes() on", day -> x.passes(0, 0, day, 0));
        DESK.refuses("passes() by what", new int[] {-1, 3, Integer.MIN_VALUE, Integer.MAX_VALUE}, what -> x.passes(0, 0, 0, what));
        DESK.due("of one CELL", x.passes(0, 0, 29, 0), 100);
    }

    @Sentence("21: How many CELLS there are to which there is a WAY (the one itself, too)")
    private static void reachOfItself() {
        StiltHerds x = Desk.on("row 5 0 5;row 0 0 5;water 0 5;");
        DESK.due("itself alone", x.reach(0, 4, 0), 1);
        DESK.due("itself and another", x.reach(2, 4, 0), 2);
        DESK.due("not where one does not STAND", x.reach(1, 4, 0), 0);
        DESK.due("all", x.reach(0, 5, 0), 6);
        DESK.due("a hundred", Desk.on("row 5 5 5 5 5 5 5 5 5 5;".repeat(10)).reach(55, 0, 0), 100);
    }

    @Sentence("21: NONE: no such ones")
    private static void reachOfNoSuch() {
        StiltHerds x = plain();
        DESK.refusesCells("reach() from", at -> x.reach(at, 0, 0));
        DESK.refusesNumbers("reach() with", h -> x.reach(0, h, 0));
        DESK.refusesDays("reach() on", day -> x.reach(0, 0, day));
        DESK.due("all at their most", x.reach(12, 99, 29), 6);
    }

    // ---- promises 22 to 25

    @Sentence("22: NONE: no such one")
    private static void seesOfNoSuch() {
        StiltHerds x = plain();
        DESK.refusesHerds("sees()", h -> x.sees(h));
        DESK.due("the last HERD is one", x.sees(1), 0);
        DESK.due("without HERDS", new StiltHerds().sees(0), -1);
    }

    @Sentence("22: today")
    private static void seesToday() {
        StiltHerds x = Desk.on("row 5 5;herd a 0 0 1;herd b 1 0 1;fog 0 99;fog 1 5;");
        DESK.due("in the FOG of DAY 0", x.sees(0), 0);
        DESK.due("saw() in it", x.saw(1, 1), 2);
        DESK.due("handed() in it", x.handed(0, 1), -1);
        DESK.due("fires() in it", x.fires(), 3);
        x.day();
        DESK.due("above the FOG of DAY 1", x.sees(0), 2);
        DESK.due("saw() above it", x.saw(1, 1), 3);
        DESK.due("handed() above it", x.handed(0, 1), 1);
        DESK.due("fires() above it", x.fires(), 1);
    }

    @Sentence("23: those on that CELL do, too")
    private static void sawOnTheCell() {
        StiltHerds x = Desk.on("row 5 5;herd a 0 0 0;herd b 0 0 9;herd c 1 0 9;fog 1 99;");
        DESK.due("those on the CELL, and one beside it", x.saw(0, 0), 7);
        x.day();
        DESK.due("those on the CELL in any FOG", x.saw(0, 0), 3);
        DESK.due("of the other CELL", x.saw(1, 99), 4);
    }

    @Sentence("23: so many inches (0 to 99); NONE: no such ones")
    private static void sawOfNoSuch() {
        StiltHerds x = plain();
        DESK.refusesCells("saw() on", at -> x.saw(at, 0));
        DESK.refusesNumbers("saw() of", inches -> x.saw(0, inches));
        DESK.due("of 0", x.saw(0, 0), 1);
        DESK.due("of 99", x.saw(12, 99), 2);
    }

    @Sentence("24: how many SEEINGS it takes (0: the same)")
    private static void handedToTheSame() {
        StiltHerds x = Desk.on("row 5 5;herd a 0 0 0;herd b 1 0 9;herd c 1 0 9;fog 0 99;fog 1 0;");
        for (int h = 0; h < 3; h++) {
            DESK.due("the same in FOG", x.handed(h, h), 0);
        }
        x.day();
        DESK.due("one SEEING", x.handed(0, 1), 1);
        DESK.due("two HERDS on one CELL, by another", x.handed(1, 2), 2);
    }

    @Sentence("24: NONE: it can't, no such ones")
    private static void handedOfNone() {
        StiltHerds x = Desk.on("row 5 9 5;herd a 0 0 1;herd b 2 0 1;");
        DESK.due("it can't", x.handed(0, 1), -1);
        StiltHerds y = Desk.on("row 5 5;herd a 0 0 1;herd b 0 0 1;");
        DESK.due("on one CELL it can't", y.handed(0, 1), -1);
        DESK.refusesHerds("handed() from", h -> x.handed(h, 0));
        DESK.refusesHerds("handed() to", h -> x.handed(0, h));
        DESK.refusesHerds("handed() from and to", h -> x.handed(h, h));
        StiltHerds chain = Desk.on("row 5 5 5 5 5 5 5 5;row 5 5 5 5 5 5 5 5;row 5 5 5 5 5 5 5 5;herd a 0 0 1;herd b 0 2 1;herd c 1 2 1;"
            + "herd d 1 0 1;");
        DESK.due("a chain goes on", chain.handed(0, 2) > 0, true);
    }

    @Sentence("24: a signal through all eight HERDS")
    private static void handedThroughAll() {
        // Each stands on low ground and SEES only its neighbours along the ring of hills.
        StiltHerds x = Desk.on("row 1 9 9 9 9 9 9 9 9 9;row 9 1 9 9 9 9 9 9 9 9;row 9 9 1 9 9 9 9 9 9 9;"
            + "row 9 9 9 1 9 9 9 9 9 9;row 9 9 9 9 1 9 9 9 9 9;row 9 9 9 9 9 1 9 9 9 9;row 9 9 9 9 9 9 1 9 9 9;"
            + "row 9 9 9 9 9 9 9 9 9 9;herd a 0 0 1;herd b 1 1 1;herd c 1 2 0;herd d 2 3 0;herd e 3 4 0;herd f 4 5 0;"
            + "herd g 5 6 0;herd h 6 7 0;");
        DESK.due("the first SEEING", x.handed(0, 1), 1);
        StiltHerds y = Desk.on("row 5 5 9 5 5 5 5 5 5 5;row 9 5 9 5 9 9 9 9 9 9;row 9 5 5 5 9 9 9 9 9 9;herd a 0 0 1;herd b 1 0 1;"
            + "herd c 1 2 1;herd d 3 2 1;herd e 3 0 1;herd f 9 0 1;");
        DESK.due("round all corners", y.handed(0, 5), 5);
        DESK.due("and back", y.handed(5, 0), 5);
    }

    @Sentence("25: The fewest HERDS (then the least set as bits)")
    private static void leastSetOfFires() {
        StiltHerds x = Desk.on("row 5 5 9 5 5;herd a 4 0 1;herd b 0 0 1;herd c 3 0 1;herd d 1 0 1;");
        DESK.due("the first of each group", x.fires(), 3);
        StiltHerds y = Desk.on("row 5 5 9 5 5;herd a 4 0 1;herd b 3 0 1;herd c 0 0 1;herd d 1 0 1;");
        DESK.due("the first of each group", y.fires(), 5);
        StiltHerds z = Desk.on("row 5 5;herd a 0 0 1;herd b 0 0 1;");
        DESK.due("two on one CELL do not see each other", z.fires(), 3);
        StiltHerds w = Desk.on("row 5 5;herd a 0 0 1;herd b 0 0 1;herd c 1 0 1;");
        DESK.due("but by a third", w.fires(), 1);
    }

    @Sentence("25: as bits (0: no HERDS)")
    private static void firesOfNoHerds() {
        DESK.due("without a MOOR", new StiltHerds().fires(), 0);
        DESK.due("without HERDS", Desk.on("row 5 5;").fires(), 0);
        StiltHerds x = Desk.on("row 5 5;fog 0 99;herd a 0 0 1;herd b 0 0 1;herd c 1 0 1;herd d 0 0 1;herd e 0 0 1;herd f 1 0 1;"
            + "herd g 1 0 1;herd h 1 0 0;");
        DESK.due("all eight in FOG", x.fires(), 255);
    }

    public static void main(String[] args) throws ReflectiveOperationException {
        DESK.runEach(LandEdgesTest.class);
    }
}
