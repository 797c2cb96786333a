/**
 * The boundary cases that the document names of texts, sentence by sentence, each in a test of its own: TOKENS, a MOOR,
 * a PLAN, FAULTS, and the promises of the tape (1 to 5 and 45). In a text an @ tells the place of a FAULT.
 */
public final class TextEdgesTest {
    private static final Desk DESK = new Desk();
    private static final String TWO = "row 5 5;";

    /** A text filled up with blanks to so many bytes. */
    private static String padded(String text, int bytes) {
        return text + " ".repeat(bytes - text.length());
    }

    /** n LINES of a sort of thing, on the CELLS of the first rows of ten. */
    private static String things(String word, int n, String number) {
        StringBuilder text = new StringBuilder();
        for (int i = 0; i < n; i++) {
            text.append(word).append(' ').append(i % 10).append(' ').append(i / 10).append(number).append(';');
        }
        return text.toString();
    }

    private static String herds(int n) {
        StringBuilder text = new StringBuilder();
        for (int i = 0; i < n; i++) {
            text.append("herd ").append((char) ('a' + i)).append(" 0 0 ").append(i).append(';');
        }
        return text.toString();
    }

    private static String rowsOfTen(int n) {
        return "row 0 1 2 3 4 5 6 7 8 9;".repeat(n);
    }

    // ---- TOKENS

    @Sentence("TOKENS of all texts, with blanks (32, 10) between them or not")
    private static void blanks() {
        DESK.moorLines("\n row\n\n5  5 \n;\n law 1 2\n;\n ", 2);
        DESK.moorLines("row 5 5;law 1 2;", 2);
        DESK.planLines(" day\n;\n\nday ; ", 2);
        for (int sign : new int[] {0, 9, 11, 12, 13, 31, 33, 127, 128, 160, 255}) {
            DESK.moorFaultAt("row 5@" + (char) sign + "5;", 1);
        }
    }

    @Sentence("WORDS: small letters, 1 to 6")
    private static void words() {
        DESK.moorLines(TWO + "herd a 0 0 1;herd z 0 0 1;herd zzzzzz 0 0 1;herd abcdef 0 0 1;", 5);
        DESK.moorFaultAt(TWO + "herd @abcdefg 0 0 1;", 1);
        DESK.moorFaultAt(TWO + "herd @zzzzzzzzzzzzzzzzzzzzz 0 0 1;", 1);
        DESK.moorFaultAt("@rowrowrow 5 5;", 1);
        DESK.moorFaultAt(TWO + "herd @A 0 0 1;", 1);
        DESK.moorFaultAt(TWO + "herd @Z 0 0 1;", 1);
        DESK.moorFaultAt(TWO + "herd @` 0 0 1;", 1);
        DESK.moorFaultAt(TWO + "herd @{ 0 0 1;", 1);
        DESK.moorFaultAt(TWO + "herd a@A 0 0 1;", 1);
    }

    @Sentence("NUMBERS: 1 to 2 digits")
    private static void numbers() {
        DESK.moorLines("row 0 9 00 99 09 90;", 1);
        DESK.moorFaultAt("row 5 @100;", 1);
        DESK.moorFaultAt("row 5 @005;", 1);
        DESK.moorFaultAt("row 5 @4294967301;", 1);
        DESK.moorFaultAt("row 5 @/;", 1);
        DESK.moorFaultAt("row 5 @:;", 1);
        DESK.moorFaultAt("row 5 @-1;", 1);
        DESK.moorFaultAt("row 5 5@.0;", 1);
    }

    @Sentence("; as a TOKEN")
    private static void semicolon() {
        DESK.moorLines("row 5 5;", 1);
        DESK.moorFaultAt("row 5 5@:", 1);
        DESK.moorFaultAt("row 5 5@<", 1);
        DESK.moorFaultAt("row 5 5@.", 1);
        DESK.moorFaultAt("row 5 5@,", 1);
    }

    @Sentence("A WORD, NUMBER goes on as long as small letters and digits do; what is not as told is no TOKEN")
    private static void tokensGoOn() {
        DESK.moorFaultAt("@row5 5;", 1);
        DESK.moorFaultAt("row @5a 5;", 1);
        DESK.moorFaultAt("row @a5 5;", 1);
        DESK.moorFaultAt("row 5 @5law 1 2;", 1);
        DESK.moorFaultAt(TWO + "herd @a1 0 0 1;", 1);
        DESK.moorFaultAt(TWO + "herd @1a 0 0 1;", 1);
        DESK.moorFaultAt(TWO + "herd @abcde6 0 0 1;", 1);
        DESK.planFaultAt("@day1;", 1);
        DESK.planFaultAt("go @ann1 0 0;", 1);
    }

    // ---- a MOOR

    @Sentence("A MOOR is a text of at most 900 bytes")
    private static void moorOf900() {
        DESK.moorLines(padded(TWO, 900), 1);
        DESK.moorLines(padded(TWO, 892) + "law 1 2;", 2);
        DESK.moorFault(padded(TWO, 901), 900, 1);
        DESK.moorFault(padded(TWO, 940), 900, 1);
        DESK.moorFault(padded("", 940), 900, 1);
    }

    @Sentence("A MOOR is { LINE ; }: of none, too")
    private static void moorOfNoLines() {
        StiltHerds x = Desk.on("row 1 2 3;row 1 2 3;law 2 3;herd a 0 0 9;wolf 0 0 1;");
        DESK.due("moor() of an empty tape", x.moor(), 0);
        int[] empty = {0, 0, 1, 99, 0, 0, 0, 0, 0, 0, 0};
        for (int what = 0; what < empty.length; what++) {
            DESK.due("count(" + what + ")", x.count(what), empty[what]);
        }
        DESK.due("no wolf", x.wolf(0), -1);
        DESK.moorLines(" \n ", 0);
        DESK.moorFaultAt("@;", 1);
        DESK.moorFaultAt(TWO + "@;", 1);
        DESK.moorFaultAt("row 5 5@", 1);
    }

    @Sentence("row: inches, 0 to 99 each")
    private static void inchesOfRows() {
        StiltHerds x = Desk.on("row 0 99;row 00 9;");
        DESK.due("ground of 0", x.cell(0, 0), 0);
        DESK.due("ground of 99", x.cell(1, 0), 99);
        DESK.due("ground of 00", x.cell(10, 0), 0);
        DESK.due("ground of 9", x.cell(11, 0), 9);
    }

    @Sentence("row: 2 to 10")
    private static void columnsTwoToTen() {
        DESK.moorFaultAt("row 5@;", 4);
        DESK.due("2 columns", Desk.on("row 5 5;").count(0), 2);
        DESK.due("10 columns", Desk.on("row 0 1 2 3 4 5 6 7 8 9;").count(0), 10);
        DESK.due("the tenth", Desk.on("row 0 1 2 3 4 5 6 7 8 9;").cell(9, 0), 9);
        DESK.moorFaultAt("row 0 1 2 3 4 5 6 7 8 9 @10;", 4);
    }

    @Sentence("row: as many as in the first")
    private static void asManyAsInTheFirst() {
        DESK.moorLines("row 1 2 3;row 1 2 3;row 4 5 6;", 3);
        DESK.moorFaultAt("row 1 2 3;row 1 2@;", 4);
        DESK.moorFaultAt("row 1 2 3;row 1@;", 4);
        DESK.moorFaultAt("row 1 2 3;row 1 2 3 @4;", 4);
        DESK.moorFaultAt("row 1 2 3;row 1 2 3;row 1 2@;", 4);
        DESK.moorFaultAt(rowsOfTen(1) + "row 0 1 2 3 4 5 6 7 8@;", 4);
        DESK.moorFaultAt(rowsOfTen(1) + "row 0 1 2 3 4 5 6 7 8 9 @9;", 4);
    }

    @Sentence("law EACH (1 to 99)")
    private static void eachOneTo99() {
        DESK.moorFaultAt("law @0 5;", 2);
        DESK.moorFaultAt("law @00 5;", 2);
        DESK.due("EACH of 1", Desk.on("law 1 5;").count(2), 1);
        DESK.due("EACH of 99", Desk.on("law 99 5;").count(2), 99);
    }

    @Sentence("law MOST (0 to 99)")
    private static void mostZeroTo99() {
        DESK.due("MOST of 0", Desk.on("law 1 0;").count(3), 0);
        DESK.due("MOST of 99", Desk.on("law 2 99;").count(3), 99);
        DESK.due("STILTS by MOST of 0", Desk.on(TWO + "law 1 0;herd a 0 0 99;").herd(0, 2), 0);
    }

    @Sentence("timber N (0 to 99)")
    private static void timberZeroTo99() {
        DESK.due("timber of 0", Desk.on(TWO + "timber 0;herd a 0 0 1;").timber(), 2);
        DESK.due("timber of 99", Desk.on(TWO + "timber 99;herd a 0 0 1;").timber(), 101);
        DESK.moorFaultAt("timber @100;", 1);
    }

    @Sentence("water, wind, fog: DAY 0 to 29")
    private static void daysZeroTo29() {
        for (String sort : new String[] {"water", "wind", "fog"}) {
            DESK.moorLines(sort + " 0 1;" + sort + " 29 1;", 2);
            DESK.moorFaultAt(sort + " @30 1;", 2);
            DESK.moorFaultAt(sort + " @99 1;", 2);
        }
    }

    @Sentence("water, wind, fog: N 0 to 99")
    private static void weatherZeroTo99() {
        StiltHerds x = Desk.on("water 0 99;water 1 0;wind 0 99;wind 1 0;fog 0 99;fog 1 0;");
        for (int sort = 0; sort < 3; sort++) {
            DESK.due("N of 99", x.on(0, sort), 99);
            DESK.due("N of 0", x.on(1, sort), 0);
        }
    }

    @Sentence("each sort and DAY once")
    private static void eachSortAndDayOnce() {
        DESK.moorLines("water 1 1;wind 1 1;fog 1 1;water 2 1;wind 2 1;fog 2 1;", 6);
        DESK.moorFaultAt("water 0 0;water @0 0;", 3);
        DESK.moorFaultAt("wind 29 1;wind 3 1;wind @29 2;", 3);
        DESK.moorFaultAt("fog 4 1;water 4 1;wind 4 1;fog @04 1;", 3);
    }

    @Sentence("door X Y N, mud X Y N (0 to 99)")
    private static void thingsZeroTo99() {
        StiltHerds x = Desk.on("row 5 5;row 5 5;door 0 0 0;door 1 0 99;mud 0 1 0;mud 1 1 99;");
        DESK.due("a door of 0", x.cell(0, 2), 0);
        DESK.due("a door of 99", x.cell(1, 2), 99);
        DESK.due("mud of 0", x.cell(10, 3), 0);
        DESK.due("mud of 99", x.cell(11, 3), 99);
        DESK.moorFaultAt(TWO + "door 0 0 @100;", 1);
        DESK.moorFaultAt(TWO + "mud 0 0 @100;", 1);
    }

    @Sentence("ladder X Y")
    private static void ladderHasNoNumber() {
        DESK.moorLines(TWO + "ladder 1 0;", 2);
        DESK.moorFaultAt(TWO + "ladder 1 0 @5;", 1);
        DESK.moorFaultAt(TWO + "ladder 1@;", 1);
    }

    @Sentence("each sort and CELL once")
    private static void eachSortAndCellOnce() {
        DESK.moorLines(TWO + "door 0 0 1;mud 0 0 1;ladder 0 0;door 1 0 1;mud 1 0 1;ladder 1 0;", 7);
        DESK.moorFaultAt(TWO + "door 0 0 0;door 0 @0 0;", 3);
        DESK.moorFaultAt(TWO + "mud 1 0 0;mud 0 0 0;mud 1 @0 0;", 3);
        DESK.moorFaultAt(TWO + "ladder 1 0;ladder 1 @0;", 3);
    }

    @Sentence("herd NAME X Y HEADS (0 to 99)")
    private static void headsZeroTo99() {
        StiltHerds x = Desk.on(TWO + "herd a 0 0 0;herd b 1 0 99;");
        DESK.due("HEADS of 0", x.herd(0, 1), 0);
        DESK.due("HEADS of 99", x.herd(1, 1), 99);
        DESK.moorFaultAt(TWO + "herd a 0 0 @100;", 1);
        DESK.moorFaultAt(TWO + "herd a 0 0@;", 1);
    }

    @Sentence("wolf X Y N (0 to 99)")
    private static void wolfZeroTo99() {
        DESK.due("a wolf of 0", Desk.on(TWO + "wolf 0 0 0;").wolf(1), 0);
        DESK.due("a wolf of 99", Desk.on(TWO + "wolf 1 0 99;").wolf(1), 99);
        DESK.moorFaultAt(TWO + "wolf 1 0 @100;", 1);
    }

    @Sentence("law, timber, wolf once each")
    private static void onceEach() {
        DESK.moorLines(TWO + "law 1 2;timber 3;wolf 0 0 4;", 4);
        DESK.moorFaultAt("law 1 2;@law 1 2;", 3);
        DESK.moorFaultAt("timber 0;@timber 0;", 3);
        DESK.moorFaultAt(TWO + "wolf 0 0 0;@wolf 1 0 1;", 3);
    }

    @Sentence("all rows ahead of all else")
    private static void rowsAheadOfAllElse() {
        String[] lines = {"law 1 2;", "timber 3;", "water 1 1;", "wind 1 1;", "fog 1 1;", "door 0 0 1;", "mud 0 0 1;",
            "ladder 0 0;", "herd a 0 0 1;", "wolf 0 0 1;"};
        for (String line : lines) {
            DESK.moorLines(TWO + TWO + line, 3);
            DESK.moorFaultAt(TWO + line + "@row 5 5;", 3);
        }
        DESK.moorFaultAt("law 1 2;@row 5 5;", 3);
    }

    @Sentence("NAME: a WORD, none of those told here or in a PLAN")
    private static void namesAreNoneOfTheWords() {
        String words = "row law timber water wind fog door mud ladder herd wolf go sell buy day night";
        for (String word : words.split(" ")) {
            DESK.moorFaultAt(TWO + "herd @" + word + " 0 0 1;", 1);
            DESK.planFaultAt("go @" + word + " 0 0;", 1);
        }
        DESK.moorLines(TWO + "herd rows 0 0 1;herd ro 0 0 1;herd nights 0 0 1;herd heads 0 0 1;", 5);
    }

    @Sentence("NAME: told once")
    private static void namesToldOnce() {
        DESK.moorFaultAt(TWO + "herd a 0 0 1;herd b 0 0 1;herd @a 1 0 2;", 3);
        DESK.moorFaultAt(TWO + "herd abcdef 0 0 1;herd @abcdef 0 0 1;", 3);
        DESK.moorLines(TWO + "herd a 0 0 1;herd aa 0 0 1;herd ab 0 0 1;herd ba 0 0 1;", 5);
    }

    @Sentence("10 rows at most")
    private static void tenRows() {
        StiltHerds x = Desk.on(rowsOfTen(10));
        DESK.due("10 rows", x.count(1), 10);
        DESK.due("the last CELL", x.cell(99, 0), 9);
        DESK.moorFaultAt("row 1 2;".repeat(10) + "@row 1 2;", 4);
    }

    @Sentence("12 doors at most")
    private static void twelveDoors() {
        DESK.due("12 doors", Desk.on(rowsOfTen(2) + things("door", 12, " 1")).count(4), 12);
        DESK.moorFaultAt(rowsOfTen(2) + things("door", 12, " 1") + "@door 9 1 1;", 4);
    }

    @Sentence("12 mud at most")
    private static void twelveMud() {
        DESK.due("12 mud", Desk.on(rowsOfTen(2) + things("mud", 12, " 1")).count(5), 12);
        DESK.moorFaultAt(rowsOfTen(2) + things("mud", 12, " 1") + "@mud 9 1 1;", 4);
    }

    @Sentence("12 ladders at most")
    private static void twelveLadders() {
        DESK.due("12 ladders", Desk.on(rowsOfTen(2) + things("ladder", 12, "")).count(10), 12);
        DESK.moorFaultAt(rowsOfTen(2) + things("ladder", 12, "") + "@ladder 9 1;", 4);
    }

    @Sentence("8 HERDS at most, HERDS numbered from 0")
    private static void eightHerds() {
        StiltHerds x = Desk.on(TWO + herds(8));
        DESK.due("8 HERDS", x.count(6), 8);
        DESK.due("the first one", x.herd(0, 1), 0);
        DESK.due("the last one", x.herd(7, 1), 7);
        DESK.moorFaultAt(TWO + herds(8) + "@herd z 0 0 1;", 4);
    }

    @Sentence("CELLS are told by X (column) and Y (row), from 0, or as 10 times Y and X")
    private static void cellsByColumnAndRow() {
        StiltHerds x = Desk.on("row 0 1 2;row 3 4 5;herd a 0 0 1;herd b 2 1 1;wolf 1 1 0;");
        DESK.due("CELL 0", x.herd(0, 0), 0);
        DESK.due("CELL of X 2, Y 1", x.herd(1, 0), 12);
        DESK.due("ground there", x.cell(12, 0), 5);
        DESK.due("the wolf's CELL", x.wolf(0), 11);
    }

    // ---- a PLAN

    @Sentence("A PLAN is a text of at most 400 bytes")
    private static void planOf400() {
        DESK.planLines(padded("day;", 400), 1);
        DESK.planLines(padded("day;", 396) + "day;", 2);
        DESK.planFault(padded("day;", 401), 400, 1);
        DESK.planFault(padded("", 900), 400, 1);
    }

    @Sentence("{ LINE ; }, 30 at most")
    private static void planOf30() {
        DESK.planLines("", 0);
        DESK.planLines("day;".repeat(30), 30);
        DESK.planFaultAt("day;".repeat(30) + "@day;", 4);
        DESK.planFaultAt("@;", 1);
        DESK.planFaultAt("day@", 1);
    }

    @Sentence("go HERD X Y")
    private static void planGoes() {
        DESK.planLines("go ann 0 0;go bob 2 1;", 2);
        DESK.planFaultAt("go ann @3 0;", 2);
        DESK.planFaultAt("go ann 2 @2;", 2);
        DESK.planFaultAt("go ann 1@;", 1);
        DESK.planFaultAt("go ann 1 1 @1;", 1);
    }

    @Sentence("sell HERD N | buy HERD N (1 to 99)")
    private static void planTradesOneTo99() {
        DESK.planLines("sell ann 1;sell ann 99;buy bob 1;buy bob 99;", 4);
        DESK.planFaultAt("sell ann @0;", 2);
        DESK.planFaultAt("buy ann @0;", 2);
        DESK.planFaultAt("sell ann @100;", 1);
        DESK.planFaultAt("buy ann @100;", 1);
    }

    @Sentence("day | night N (1 to 20)")
    private static void planNightsOneTo20() {
        DESK.planLines("day;night 1;night 20;", 3);
        DESK.planFaultAt("night @0;", 2);
        DESK.planFaultAt("night @21;", 2);
        DESK.planFaultAt("night @99;", 2);
        DESK.planFaultAt("night@;", 1);
        DESK.planFaultAt("day @1;", 1);
    }

    // ---- FAULTS

    @Sentence("FAULTS, the first along the text")
    private static void firstAlongTheText() {
        DESK.moorFaultAt("row 5 5;law @0 1;law 1 1;?", 2);
        DESK.moorFaultAt("law 1 1;@law 0 ?;", 3);
        DESK.moorFaultAt(TWO + "herd a 0 0 1;herd @a 9 9 100;", 3);
        DESK.moorFaultAt(TWO + "door 0 0 1;door @2 0 1;", 2);
        DESK.moorFaultAt(TWO + herds(8) + "@herd a 5 5 1;", 4);
        DESK.moorFaultAt("row 5@;law 0 0;", 4);
        DESK.planFaultAt("sell @cid 0;", 3);
        DESK.planFaultAt("sell ann @0?", 2);
    }

    @Sentence("FAULTS, of one TOKEN the least")
    private static void ofOneTokenTheLeast() {
        DESK.moorFaultAt("row 5 5;".repeat(10) + "law 1 1;@row 5 5;", 3);
        DESK.moorFaultAt("row@;", 1);
        DESK.moorFaultAt("row 5 5;row@;", 1);
        DESK.moorFaultAt("row 0 1 2 3 4 5 6 7 8 9 @100;", 1);
        DESK.moorFaultAt("row 0 1 2 3 4 5 6 7 8 9 @x;", 1);
        DESK.planFaultAt("day;".repeat(30) + "@row;", 1);
        DESK.planFaultAt("day;".repeat(30) + "@;", 1);
        DESK.planFaultAt("day;".repeat(30) + "@ann;", 1);
        DESK.planFaultAt("go @wolf 0 0;", 1);
    }

    @Sentence("1 no TOKEN (at it)")
    private static void noToken() {
        DESK.moorFaultAt("@?", 1);
        DESK.moorFaultAt("  @R", 1);
        DESK.moorFaultAt("row 5 5; @#", 1);
        DESK.moorFaultAt(TWO + "door 0 0 @-1;", 1);
        DESK.planFaultAt("day;\n@*", 1);
    }

    @Sentence("1 a TOKEN that can't come (at it)")
    private static void tokenThatCannotCome() {
        DESK.moorFaultAt("@5", 1);
        DESK.moorFaultAt("@sheep;", 1);
        DESK.moorFaultAt("@rows 1 2;", 1);
        DESK.moorFaultAt("row @row;", 1);
        DESK.moorFaultAt("row 5 5 @law 1 2;", 1);
        DESK.moorFaultAt("law 1@;", 1);
        DESK.moorFaultAt("law 1 2 @3;", 1);
        DESK.moorFaultAt("law @x 2;", 1);
        DESK.moorFaultAt("water 1@;", 1);
        DESK.moorFaultAt("fog 1 1 @1;", 1);
        DESK.moorFaultAt(TWO + "herd @0 0 0 1;", 1);
        DESK.moorFaultAt(TWO + "herd a @b 0 1;", 1);
        DESK.moorFaultAt(TWO + "wolf 0 0@;", 1);
        for (String word : new String[] {"go a 0 0;", "sell a 1;", "buy a 1;", "day;", "night 1;"}) {
            DESK.moorFaultAt(TWO + "herd a 0 0 1;@" + word, 1);
        }
        for (String word : new String[] {"row 5 5;", "law 1 1;", "timber 1;", "water 1 1;", "wind 1 1;", "fog 1 1;",
            "door 0 0 1;", "mud 0 0 1;", "ladder 0 0;", "herd cid 0 0 1;", "wolf 0 0 1;"}) {
            DESK.planFaultAt("@" + word, 1);
        }
    }

    @Sentence("1 the end: how many bytes there are")
    private static void atTheEnd() {
        DESK.moorFaultAt("row@", 1);
        DESK.moorFaultAt("row 5 5@", 1);
        DESK.moorFaultAt("row 5 5 \n @", 1);
        DESK.moorFaultAt("row 5 5;law 1@", 1);
        DESK.moorFault(padded("row 5 5", 900), 900, 1);
        DESK.planFaultAt("go ann 1@", 1);
        DESK.planFaultAt("day  @", 1);
        DESK.planFault(padded("night", 400), 400, 1);
    }

    @Sentence("1 the most bytes told, if there are more and no FAULT is ahead")
    private static void moreThanTheMost() {
        DESK.moorFault(padded(TWO, 901), 900, 1);
        DESK.moorFault(padded("row 5 5", 920), 900, 1);
        DESK.moorFault(padded(TWO, 900) + "law 1 2;", 900, 1);
        DESK.moorFault(padded(TWO, 905) + "?", 900, 1);
        DESK.moorFault(padded("law 0 1;", 901), 4, 2);
        DESK.moorFault(padded("row 5;", 940), 5, 4);
        DESK.moorFault(padded(TWO, 899) + "??", 899, 1);
        DESK.planFault(padded("day;", 400) + "day;", 400, 1);
        DESK.planFault(padded("night 0;", 401), 6, 2);
        DESK.planFault(padded("day;".repeat(30), 400) + "day;", 400, 1);
    }

    @Sentence("1 TOKENS that begin ahead of it are read whole")
    private static void readWholeAcrossTheMost() {
        DESK.moorFault(padded(TWO, 899) + "law 1 2;", 900, 1);
        DESK.moorFault(padded(TWO, 899) + "laws 1 2;", 899, 1);
        DESK.moorFault(padded("law 1 2;", 899) + "law 1 2;", 899, 3);
        DESK.moorFault(padded(TWO + "water", 899) + "30 1;", 899, 2);
        DESK.moorFault(padded(TWO + "water", 899) + "29 1;", 900, 1);
        DESK.moorFault(padded(TWO + "water", 899) + "290 1;", 899, 1);
        DESK.planFault(padded("night", 399) + "21;", 399, 2);
        DESK.planFault(padded("night", 399) + "20;", 400, 1);
        DESK.planFault(padded("go", 399) + "cid 0 0;", 399, 3);
        DESK.planFault(padded("go", 399) + "ann 0 0;", 400, 1);
    }

    @Sentence("2 a NUMBER that is not as told (at it)")
    private static void numberNotAsTold() {
        DESK.moorFaultAt("law @0 1;", 2);
        DESK.moorFaultAt("water @30 1;", 2);
        DESK.moorFaultAt("wind @30 1;", 2);
        DESK.moorFaultAt("fog @30 1;", 2);
        DESK.planFaultAt("sell ann @00;", 2);
        DESK.planFaultAt("buy ann @00;", 2);
        DESK.planFaultAt("night @00;", 2);
    }

    @Sentence("2 X where there is no such column")
    private static void noSuchColumn() {
        String[] lines = {"door @2 0 1;", "mud @2 0 1;", "ladder @2 0;", "herd a @2 0 1;", "wolf @2 0 1;", "wolf @99 9 1;"};
        for (String line : lines) {
            DESK.moorFaultAt(TWO + line, 2);
        }
        DESK.moorFaultAt(rowsOfTen(1) + "door @10 0 1;", 2);
        DESK.moorFaultAt("door @0 0 1;", 2);
        DESK.moorFaultAt("ladder @0 0;", 2);
        DESK.planFaultAt("go ann @3 0;", 2);
    }

    @Sentence("2 Y where there is no such row")
    private static void noSuchRow() {
        String[] lines = {"door 1 @1 1;", "mud 1 @1 1;", "ladder 1 @1;", "herd a 1 @1 1;", "wolf 1 @1 1;", "wolf 1 @99 1;"};
        for (String line : lines) {
            DESK.moorFaultAt(TWO + line, 2);
        }
        DESK.moorFaultAt(rowsOfTen(10) + "mud 0 @10 1;", 2);
        DESK.planFaultAt("go ann 0 @2;", 2);
    }

    @Sentence("3 a NAME told twice (at it)")
    private static void nameToldTwice() {
        DESK.moorFaultAt(TWO + "herd ab 0 0 1;  herd  @ab 0 0 1;", 3);
    }

    @Sentence("3 a NAME not told (at it)")
    private static void nameNotTold() {
        DESK.planFaultAt("go @an 0 0;", 3);
        DESK.planFaultAt("sell @anna 1;", 3);
        DESK.planFaultAt("day;buy @cid 1;", 3);
        StiltHerds x = new StiltHerds();
        DESK.due("no HERDS, so no NAMES", Desk.plan(x, "go a 0 0;"), -1 - 3);
        DESK.due("kind", x.fault(), 3);
    }

    @Sentence("3 a row behind something else (at its WORD)")
    private static void rowBehindSomethingElse() {
        DESK.moorFaultAt("water 0 1; @row 5 5;", 3);
        DESK.moorFaultAt("row 5 5;herd a 0 0 1;@row 5;", 3);
    }

    @Sentence("3 what is told once told again (at its WORD)")
    private static void toldAgain() {
        DESK.moorFaultAt("law 1 1; @law ?", 3);
        DESK.moorFaultAt("timber 1; @timber ?", 3);
        DESK.moorFaultAt(TWO + "wolf 0 0 1; @wolf ?", 3);
    }

    @Sentence("3 a DAY of one sort told again (at it)")
    private static void dayToldAgain() {
        DESK.moorFaultAt("water 5 1;water @5 ?", 3);
        DESK.moorFaultAt("wind 0 1;wind @0 ?", 3);
        DESK.moorFaultAt("fog 29 1;fog @29 ?", 3);
    }

    @Sentence("3 a door, mud, a ladder on a CELL with one (at Y)")
    private static void cellWithOne() {
        DESK.moorFaultAt(TWO + "door 1 0 1;door 1 @0 ?", 3);
        DESK.moorFaultAt(TWO + "mud 1 0 0;mud 1 @0 ?", 3);
        DESK.moorFaultAt(TWO + "ladder 0 0;ladder 0 @0 ?", 3);
    }

    @Sentence("4 an 11th row (at the LINE's first WORD)")
    private static void eleventhRow() {
        DESK.moorFaultAt("row 5 5;".repeat(10) + "  @row ?", 4);
    }

    @Sentence("4 a 13th door, mud, ladder (at the LINE's first WORD)")
    private static void thirteenthThing() {
        DESK.moorFaultAt(rowsOfTen(2) + things("door", 12, " 1") + " @door ?", 4);
        DESK.moorFaultAt(rowsOfTen(2) + things("mud", 12, " 1") + " @mud ?", 4);
        DESK.moorFaultAt(rowsOfTen(2) + things("ladder", 12, "") + " @ladder ?", 4);
    }

    @Sentence("4 a ninth HERD (at the LINE's first WORD)")
    private static void ninthHerd() {
        DESK.moorFaultAt(TWO + herds(8) + " @herd ?", 4);
    }

    @Sentence("4 a 31st LINE of a PLAN (at the LINE's first WORD)")
    private static void thirtyFirstLine() {
        for (String line : new String[] {"go ?", "sell ?", "buy ?", "day ?", "night ?"}) {
            DESK.planFaultAt("day;".repeat(30) + " @" + line, 4);
        }
    }

    @Sentence("4 an 11th H or one more than the first row has (at it)")
    private static void oneTooMany() {
        DESK.moorFaultAt("row 0 1 2 3 4 5 6 7 8 9  @0 ?", 4);
        DESK.moorFaultAt("row 5 5;row 5 5  @5 ?", 4);
        DESK.moorFaultAt("row 5 5 5;row 5 5 5;row 5 5 5  @0;", 4);
        DESK.moorFaultAt(rowsOfTen(9) + "row 0 1 2 3 4 5 6 7 8 9 @0;", 4);
    }

    @Sentence("4 a row of too few (at its ;)")
    private static void tooFew() {
        DESK.moorFaultAt("row 5  @; ?", 4);
        DESK.moorFaultAt("row 5 5 5;row 5 5 @; ?", 4);
    }

    // ---- promises 1 to 5 and 45

    @Sentence("1: An empty MOOR; an empty tape")
    private static void newObject() {
        StiltHerds x = new StiltHerds();
        int[] empty = {0, 0, 1, 99, 0, 0, 0, 0, 0, 0, 0};
        for (int what = 0; what < empty.length; what++) {
            DESK.due("count(" + what + ")", x.count(what), empty[what]);
        }
        DESK.due("the tape has no byte", x.end(1), false);
        DESK.noCell(x, 0, 0);
        DESK.noHerd(x, 0, 0);
        DESK.due("no wolf", x.wolf(0), -1);
        DESK.due("WATER", x.on(0, 0), 0);
    }

    @Sentence("2: Twenty bytes come behind the tape, of each number the highest first: how many it has")
    private static void feedPutsTheHighestFirst() {
        StiltHerds x = new StiltHerds();
        // "row ", "12 3", ";\nla", "w 4 ", "56;\n"
        DESK.due("feed()", x.feed(0x726f7720, 0x31322033, 0x3b0a6c61, 0x77203420, 0x35363b0a), 20);
        DESK.due("moor()", x.moor(), 2);
        DESK.due("ground", x.cell(0, 0), 12);
        DESK.due("EACH", x.count(2), 4);
        DESK.due("MOST", x.count(3), 56);
        x.feed(0, 0, 0, 0, 0);
        DESK.due("feed() behind it", x.feed(0, 0, 0, 0, 0), 40);
        x.end(0);
        x.feed(0x80ffff80, -1, Integer.MIN_VALUE, Integer.MAX_VALUE, 0x00000001);
        x.end(3);
        DESK.due("bytes above 127 are 128 to 255: X is off the MOOR", x.holes(), -1);
    }

    @Sentence("2: NONE, and none come, if it would have more than 940")
    private static void feedIsFullAt940() {
        StiltHerds x = new StiltHerds();
        for (int n = 20; n <= 940; n += 20) {
            DESK.due("feed() to " + n, x.feed(0, 0, 0, 0, 0), n);
        }
        DESK.due("feed() beyond 940", x.feed(1, 1, 1, 1, 1), -1);
        DESK.due("none came", x.count(9), 940);
        x.end(921);
        DESK.due("feed() from 921", x.feed(1, 1, 1, 1, 1), -1);
        DESK.due("none came behind 921", x.count(9), 921);
        x.end(920);
        DESK.due("feed() from 920", x.feed(1, 1, 1, 1, 1), 940);
    }

    @Sentence("3: The tape has its first n bytes alone: true")
    private static void endCutsTheTape() {
        StiltHerds x = new StiltHerds();
        DESK.due("end(0) of an empty tape", x.end(0), true);
        Desk.feed(x, "row 1 2;law 3 4;");
        DESK.due("end() of all", x.end(16), true);
        DESK.due("all stay", x.count(9), 16);
        DESK.due("end(8)", x.end(8), true);
        DESK.due("8 stay", x.count(9), 8);
        DESK.due("the first ones", x.moor(), 1);
        DESK.due("columns", x.count(0), 2);
        Desk.feed(x, "row 1 2;");
        DESK.due("end(0)", x.end(0), true);
        DESK.due("none stay", x.count(9), 0);
    }

    @Sentence("3: what is cut off is no part of a text")
    private static void whatIsCutOffIsNotRead() {
        String[] texts = {"rows", "law 12", "law 1 2;;", "row 1 2;?"};
        int[] cuts = {3, 5, 8, 8};
        int[] due = {-1 - 3, -1 - 5, 1, 1};
        for (int i = 0; i < texts.length; i++) {
            StiltHerds x = new StiltHerds();
            Desk.feed(x, texts[i]);
            x.end(cuts[i]);
            DESK.due(cuts[i] + " bytes of " + texts[i], x.moor(), due[i]);
        }
        StiltHerds x = new StiltHerds();
        Desk.feed(x, "day;night");
        x.end(4);
        DESK.due("a PLAN", x.plan(), 1);
        Desk.feed(x, "ab");
        Desk.plan(x, "");
        Desk.feed(x, "nightday;");
        x.end(5);
        DESK.due("a PLAN cut in a LINE", x.plan(), -1 - 5);
    }

    @Sentence("3: false, if it has not so many, or n is below 0")
    private static void endRefuses() {
        StiltHerds x = new StiltHerds();
        DESK.due("end(1) of an empty tape", x.end(1), false);
        DESK.due("end(-1) of an empty tape", x.end(-1), false);
        x.feed(0, 0, 0, 0, 0);
        DESK.due("end(21) of 20", x.end(21), false);
        DESK.due("end(-1) of 20", x.end(-1), false);
        DESK.due("end of the greatest int", x.end(Integer.MAX_VALUE), false);
        DESK.due("end of the least int", x.end(Integer.MIN_VALUE), false);
        DESK.due("the tape stays", x.count(9), 20);
        x.end(5);
        DESK.due("what was cut does not come back", x.end(6), false);
    }

    @Sentence("4: The tape (empty then, here and below) is the MOOR now: how many LINES")
    private static void moorEmptiesTheTape() {
        StiltHerds x = new StiltHerds();
        DESK.due("LINES", Desk.moor(x, "row 1 2;law 3 4;"), 2);
        DESK.due("the tape is empty", x.count(9), 0);
        Desk.moor(x, "row ?");
        DESK.due("the tape is empty behind a FAULT", x.count(9), 0);
        Desk.plan(x, "day;");
        DESK.due("the tape is empty behind plan()", x.count(9), 0);
        Desk.plan(x, "?");
        DESK.due("the tape is empty behind a FAULT of plan()", x.count(9), 0);
        Desk.holes(x, 0, 0, 3);
        DESK.due("the tape is empty behind holes()", x.count(9), 0);
        Desk.holes(x, 0);
        DESK.due("the tape is empty behind holes() of NONE", x.count(9), 0);
        DESK.due("the MOOR was not told again", x.count(0), 2);
    }

    @Sentence("4: The tape is the MOOR now: nothing of the one ahead of it is left")
    private static void nothingOfTheOldMoor() {
        String full = rowsOfTen(2) + "law 3 4;timber 50;water 0 9;wind 0 9;fog 0 9;" + things("door", 12, " 1")
            + things("mud", 12, " 1") + things("ladder", 12, "") + herds(8) + "wolf 0 0 9;";
        StiltHerds x = Desk.on(full);
        DESK.due("a MOOR with a FAULT at its end", Desk.moor(x, full + "?"), -1 - full.length());
        DESK.due("the same again", Desk.moor(x, full), 2 + 5 + 36 + 9);
        DESK.due("12 ladders", x.count(10), 12);
        DESK.due("another", Desk.moor(x, "row 5 5;herd z 1 0 7;"), 2);
        int[] due = {2, 1, 1, 99, 0, 0, 1, 0, 0, 0, 0};
        for (int what = 0; what < due.length; what++) {
            DESK.due("count(" + what + ")", x.count(what), due[what]);
        }
        DESK.due("no timber", x.timber(), 14);
        DESK.due("HEADS", x.flock(), 7);
        DESK.due("no wolf", x.wolf(0), -1);
        for (int sort = 0; sort < 3; sort++) {
            DESK.due("no weather", x.on(29, sort), 0);
        }
        DESK.due("no door", x.cell(0, 2), -1);
        DESK.due("no mud", x.cell(0, 3), -1);
        DESK.due("one HERD alone", x.cell(0, 4), 0);
        DESK.due("no ladder", x.ladders(0, 1, 5, 0), 1);
        DESK.due("no old NAME", Desk.plan(x, "sell a 1;"), -1 - 5);
        DESK.due("the new NAME", Desk.plan(x, "sell z 1;"), 1);
        DESK.noCell(x, 2, 0);
        DESK.noCell(x, 10, 0);
        DESK.noHerd(x, 1, 0);
    }

    @Sentence("4: -1 less the place of a FAULT: it stays")
    private static void moorStaysBehindAFault() {
        StiltHerds x = Desk.on("row 5 5 5;row 5 5 5;law 2 3;timber 4;water 0 6;door 0 0 7;mud 1 0 8;ladder 2 0;"
            + "herd ann 0 0 9;wolf 1 1 1;");
        x.day();
        x.go(0, 0);
        Desk.plan(x, "day;day;");
        DESK.due("a FAULT at 0", Desk.moor(x, "?"), -1);
        String lines = "row 1 2;law 9 9;timber 9;water 1 9;fog 1 9;herd bob 0 0 9;";
        DESK.due("a FAULT behind LINES", Desk.moor(x, lines + "law 1 1;"), -1 - lines.length());
        int[] due = {3, 2, 2, 3, 1, 1, 1, 1, 2, 0, 1};
        for (int what = 0; what < due.length; what++) {
            DESK.due("count(" + what + ") stays", x.count(what), due[what]);
        }
        DESK.due("ground stays", x.cell(0, 0), 5);
        DESK.due("WATER stays", x.on(1, 0), 6);
        DESK.due("the wolf stays", x.wolf(0), 11);
        DESK.due("HEADS stay", x.herd(0, 1), 9);
        DESK.due("NAMES stay", Desk.plan(x, "sell ann 1;"), 1);
        DESK.due("ACTS can still be undone", x.undo() >= 0, true);
    }

    @Sentence("5: The kind of the FAULT of the latest moor() or plan()")
    private static void faultOfTheLatest() {
        StiltHerds x = new StiltHerds();
        Desk.moor(x, "row 5;");
        DESK.due("of moor()", x.fault(), 4);
        Desk.plan(x, "night 0;");
        DESK.due("of plan()", x.fault(), 2);
        Desk.plan(x, "go a 0 0;");
        DESK.due("of plan() again", x.fault(), 3);
        Desk.moor(x, "?");
        DESK.due("of moor() again", x.fault(), 1);
        DESK.due("asked twice", x.fault(), 1);
        Desk.holes(x, 0);
        x.judge(3);
        DESK.due("other calls leave it", x.fault(), 1);
    }

    @Sentence("5: 0 without one and ahead of any")
    private static void noFault() {
        StiltHerds x = new StiltHerds();
        DESK.due("ahead of any", x.fault(), 0);
        Desk.moor(x, "?");
        Desk.moor(x, "row 1 2;");
        DESK.due("behind a moor() without one", x.fault(), 0);
        Desk.moor(x, "?");
        Desk.plan(x, "");
        DESK.due("behind a plan() without one", x.fault(), 0);
    }

    @Sentence("45: The tape is the PLAN now: how many LINES")
    private static void planLines() {
        StiltHerds x = new StiltHerds();
        DESK.due("a PLAN without a MOOR", Desk.plan(x, "day;night 3;"), 2);
        DESK.due("its LINES", x.count(8), 2);
        DESK.due("the empty PLAN", x.plan(), 0);
        DESK.due("no LINES", x.count(8), 0);
        DESK.due("a longer one", Desk.plan(x, "day;day;day;"), 3);
        DESK.due("a shorter one", Desk.plan(x, "day;"), 1);
        DESK.due("its one LINE", x.count(8), 1);
    }

    @Sentence("45: -1 less the place of a FAULT: it stays")
    private static void planStaysBehindAFault() {
        StiltHerds x = new StiltHerds();
        Desk.plan(x, "day;day;");
        DESK.due("a FAULT at 0", Desk.plan(x, "?"), -1);
        DESK.due("a FAULT at 12", Desk.plan(x, "day;day;day;?"), -13);
        DESK.due("LINES stay", x.count(8), 2);
        DESK.due("none of them is WRONG", x.judge(0), -1);
        DESK.due("they are two days", x.judged(2), 2);
    }

    public static void main(String[] args) throws ReflectiveOperationException {
        DESK.runEach(TextEdgesTest.class);
    }
}
