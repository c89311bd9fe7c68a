/** READ: each thing that may be wrong, its place, and which of two comes first. Files are poked byte by byte. */
public final class FaultTest {
    private static final int GOOD = -2;

    public static void main(String[] args) {
        goodOnes();
        firstAndLastByte();
        lastLine();
        numbers();
        numbersInEachLine();
        blanksAndEndsInEachLine();
        xLine();
        rows();
        pLine();
        eLine();
        records();
        partsBefore();
        orderInOnePart();
        placesInsideLines();
        tooManyParts();
        tooManyBeforeOthers();
        boundsOfRows();
        boundsOfPlaces();
        boundsOfRecords();
        greatestFile();
        Check.end();
    }

    /** The file is this text; its FAULT is at a place (GOOD: none, and one revision). */
    private static void fault(String why, String file, int place) {
        RevisionWrite x = Check.holding(file);
        int want = place == GOOD ? 1 : -1 - place;
        Check.due(why + " " + Check.shown(file), x.read(), want);
        Check.due(why + ": altered", x.told(4), place == GOOD ? 0 : 1);
    }

    private static void goodOnes() {
        fault("no objects", "%F1\nx 0\np 0\ne 4\n", GOOD);
        fault("bytes that are told nowhere", "%F1\nno part\nx 0\np 0\ne 12\n", GOOD);
        fault("one object", "%F1\no 7 2\n\n\n\nx 1\n7 4\np 0\ne 13\n", GOOD);
        fault("one that is gone", "%F1\nx 1\n7 -\np 0\ne 4\n", GOOD);
        fault("records backwards", "%F1\no 2 1\nb\no 1 0\n\nx 2\n1 12\n2 4\np 0\ne 19\n", GOOD);
        RevisionWrite x = Check.holding("%F1\no 40 2\nab\no 7 0\n\nx 3\n7 14\n9 -\n40 4\np 0\ne 21\n");
        Check.due("read", x.read(), 1);
        Check.due("object 7", Check.objectOf(x, 7), "");
        Check.due("object 9", Check.objectOf(x, 9), "none");
        Check.due("object 40", Check.objectOf(x, 40), "ab");
        Check.due("objects", x.told(2), 2);
        Check.due("changed", x.told(3), 0);
        Check.due("place of 7", x.place(0, 7), 14);
        Check.due("place of 9", x.place(0, 9), -1);
    }

    private static void firstAndLastByte() {
        fault("byte 0", "$F1\nx 0\np 0\ne 4\n", 0);
        fault("byte 1", "%f1\nx 0\np 0\ne 4\n", 0);
        fault("byte 2", "%F2\nx 0\np 0\ne 4\n", 0);
        fault("byte 3", "%F1 \nx 0\np 0\ne 5\n", 0);
        fault("a longer first line", "%F10\nx 0\np 0\ne 5\n", 0);
        fault("the first line is looked at first", "%F2\nx 0\np 0\ne 4 ", 0);
        fault("the last byte", "%F1\nx 0\np 0\ne 4 ", 16);
        fault("the last byte, a digit more", "%F1\nx 0\np 0\ne 44", 16);
        fault("the last byte is looked at before the last line", "%F1\nx 0\np 0\ne 4 x", 17);
    }

    private static void lastLine() {
        fault("another letter", "%F1\nx 0\np 0\nf 4\n", 12);
        fault("no number", "%F1\nx 0\np 0\ne x\n", 12);
        fault("an empty last line", "%F1\nx 0\np 0\ne 4\n\n", 16);
        fault("an empty last line before a wrong x", "%F1\ny 0\np 0\ne 4\n\n", 16);
        fault("two blanks", "%F1\nx 0\np 0\ne  4\n", 12);
        fault("a blank behind", "%F1\nx 0\np 0\ne 4 \n", 12);
        fault("a blank before", "%F1\nx 0\np 0\n e 4\n", 12);
        fault("a tab", "%F1\nx 0\np 0\ne\t4\n", 12);
        fault("X is its own place", "%F1\nx 0\np 0\ne 12\n", 12);
        fault("X is beyond its own place", "%F1\nx 0\np 0\ne 13\n", 12);
        fault("X is just before its own place", "%F1\nx 0\np 0\ne 11\n", 11);
        fault("X beyond the file", "%F1\nx 0\np 0\ne 99999\n", 12);
        fault("the first line is the last one", "%F1\n" + "a".repeat(20) + "\n", 4);
    }

    private static void numbers() {
        fault("00", "%F1\nx 00\np 0\ne 4\n", 4);
        fault("04", "%F1\nx 0\np 0\ne 04\n", 12);
        fault("six digits", "%F1\nx 0\np 0\ne 000004\n", 12);
        fault("six digits that are small enough", "%F1\nx 0\np 0\ne 100000\n", 12);
        fault("no digits", "%F1\nx 0\np 0\n\ne \n", 13);
        fault("below the digits", "%F1\nx 0\np 0\ne /\n", 12);
        fault("above the digits", "%F1\nx 0\np 0\ne :\n", 12);
        fault("a sign", "%F1\nx 0\np 0\ne +4\n", 12);
        fault("five digits are a number", "%F1\nx 99999\np 0\ne 4\n", 12);
        fault("six digits are none", "%F1\nx 100000\np 0\ne 4\n", 4);
        fault("ten digits that wrap around", "%F1\nx 0\np 0\ne 4294967300\n", 12);
    }

    /** The lines of a file of one object, for a test to make one of them wrong. */
    private static final class Lines {
        String o = "o 7 1\n";
        String x = "x 1\n";
        String row = "7 4\n";
        String p = "p 0\n";
        String e = null;

        int xPlace() {
            return 4 + o.length() + 2;
        }

        String file() {
            return "%F1\n" + o + "a\n" + x + row + p + (e == null ? "e " + xPlace() + "\n" : e);
        }

        int rowPlace() {
            return xPlace() + x.length();
        }

        int pPlace() {
            return rowPlace() + row.length();
        }

        int ePlace() {
            return pPlace() + p.length();
        }
    }

    private static void wrongO(String o) {
        Lines lines = new Lines();
        lines.o = o;
        fault("o line", lines.file(), 4);
    }

    private static void wrongX(String x) {
        Lines lines = new Lines();
        lines.x = x;
        fault("x line", lines.file(), lines.xPlace());
    }

    private static void wrongRow(String row) {
        Lines lines = new Lines();
        lines.row = row;
        fault("row", lines.file(), lines.rowPlace());
    }

    private static void wrongP(String p) {
        Lines lines = new Lines();
        lines.p = p;
        fault("p line", lines.file(), lines.pPlace());
    }

    private static void wrongE(String e) {
        Lines lines = new Lines();
        lines.e = e;
        fault("e line", lines.file(), lines.ePlace());
    }

    /** The number is right but for how it is written: by a 0 before, six digits, none, or one that wraps around to it. */
    private static void numbersInEachLine() {
        fault("all is right", new Lines().file(), GOOD);
        for (String wrong : new String[] {"0%d", "00%d", "00000%d", "", "-%d", "+%d", "%d.", "0x%d", "\u00b1"}) {
            wrongO("o " + wrong.replace("%d", "7") + " 1\n");
            wrongO("o 7 " + wrong.replace("%d", "1") + "\n");
            wrongX("x " + wrong.replace("%d", "1") + "\n");
            wrongRow(wrong.replace("%d", "7") + " 4\n");
            wrongRow("7 " + wrong.replace("%d", "4") + "\n");
            wrongP("p " + wrong.replace("%d", "0") + "\n");
            wrongE("e " + wrong.replace("%d", "12") + "\n");
        }
        long turn = 1L << 32;
        wrongO("o " + (turn + 7) + " 1\n");
        wrongO("o 7 " + (turn + 1) + "\n");
        wrongX("x " + (turn + 1) + "\n");
        wrongRow((turn + 7) + " 4\n");
        wrongRow("7 " + (turn + 4) + "\n");
        wrongP("p " + turn + "\n");
        wrongE("e " + (turn + 12) + "\n");
        // Numbers of five digits are numbers: what is wrong is only that they are too great.
        wrongO("o 99999 1\n");
        wrongO("o 7 99999\n");
        wrongRow("99999 4\n");
        wrongRow("7 99999\n");
        wrongP("p 99999\n");
        wrongE("e 99999\n");
        Lines lines = new Lines();
        lines.x = "x 99999\n";
        fault("more rows than there are", lines.file(), lines.pPlace());
    }

    /** Each line with a blank too many or too few, another byte for it, bytes behind, bytes above 127. */
    private static void blanksAndEndsInEachLine() {
        for (String o : new String[] {"o  7 1\n", "o7 1\n", "o 71\n", "o 7 1 \n", " o 7 1\n", "o 7\t1\n", "o 7 1\r\n",
            "o 7\n", "o\n", "\u00ef 7 1\n", "o\u00a07 1\n", "o 7\u00a01\n", "o 7 1\u008a", "o 7 -\n", "oo 7 1\n"}) {
            wrongO(o);
        }
        for (String x : new String[] {"x  1\n", "x1\n", "x 1 \n", " x 1\n", "x\t1\n", "x 1\r\n", "x\n", "X 1\n", "\u00f8 1\n",
            "x\u00a01\n", "x 1\u008a", "x -\n", "\n"}) {
            wrongX(x);
        }
        for (String row : new String[] {"7  4\n", "74\n", "7 4 \n", " 7 4\n", "7\t4\n", "7 4\r\n", "7\n", "7 --\n", "7 - \n", "7  -\n",
            "7-\n", " -\n", "- 4\n", "7 _\n", "7\u00a04\n", "7 4\u008a", "7 -\u008a", "7 4-\n", "7 \u00ad\n", "\n"}) {
            wrongRow(row);
        }
        for (String p : new String[] {"p  0\n", "p0\n", "p 0 \n", " p 0\n", "p\t0\n", "p 0\r\n", "p\n", "P 0\n", "\u00f0 0\n",
            "p\u00a00\n", "p 0\u008a", "p -\n", "\n"}) {
            wrongP(p);
        }
        for (String e : new String[] {"e  12\n", "e12\n", "e 12 \n", " e 12\n", "e\t12\n", "e 12\r\n", "e\n", "E 12\n",
            "\u00e5 12\n", "e\u00a012\n", "e -\n", "\n"}) {
            wrongE(e);
        }
    }

    private static void xLine() {
        fault("another letter", "%F1\ny 0\np 0\ne 4\n", 4);
        fault("no blank", "%F1\nx0\np 0\n\ne 4\n", 4);
        fault("a blank behind", "%F1\nx 0 \np 0\ne 4\n", 4);
        fault("told is 0", "%F1\nx 0\np 0\ne 0\n", 0);
        fault("told is inside a line", "%F1\nx 0\np 0\ne 5\n", 5);
        fault("told is the line's end", "%F1\nx 0\np 0\ne 3\n", 3);
        fault("told is another line", "%F1\nx 0\np 0\ne 8\n", 8);
    }

    private static void rows() {
        String record = "%F1\no 1 0\n\no 2 0\n\n";
        fault("two rows", record + "x 2\n1 4\n2 11\np 0\ne 18\n", GOOD);
        fault("a row too few", record + "x 1\n1 4\n2 11\np 0\ne 18\n", 26);
        fault("a row too many", record + "x 3\n1 4\n2 11\np 0\ne 18\n", 31);
        fault("rows beyond the file", record + "x 2\n1 4\n2 11\ne 18\n", 31);
        fault("the same number", record + "x 2\n1 4\n1 4\np 0\ne 18\n", 26);
        fault("a less number", record + "x 2\n2 11\n1 4\np 0\ne 18\n", 27);
        fault("number 0", record + "x 2\n0 4\n2 11\np 0\ne 18\n", 22);
        fault("number 40", record + "x 2\n1 4\n40 -\np 0\ne 18\n", GOOD);
        fault("number 41", record + "x 2\n1 4\n41 -\np 0\ne 18\n", 26);
        fault("number 01", record + "x 1\n01 4\np 0\ne 18\n", 22);
        fault("no place", record + "x 1\n1 \np 0\ne 18\n", 22);
        fault("no number", record + "x 1\n 4\np 0\ne 18\n", 22);
        fault("place 04", record + "x 1\n1 04\np 0\ne 18\n", 22);
        fault("a blank behind", record + "x 1\n1 4 \np 0\ne 18\n", 22);
        fault("two blanks", record + "x 1\n1  4\np 0\ne 18\n", 22);
        fault("a tab", record + "x 1\n1\t4\np 0\ne 18\n", 22);
        fault("gone and more", record + "x 1\n1 -4\np 0\ne 18\n", 22);
        fault("gone and a blank", record + "x 1\n1 - \np 0\ne 18\n", 22);
        fault("place of the x", record + "x 1\n1 18\np 0\ne 18\n", 22);
        fault("place before the x", record + "x 1\n1 17\np 0\ne 18\n", 17);
        fault("place behind the x", record + "x 1\n1 19\np 0\ne 18\n", 22);
        fault("place 0", record + "x 1\n1 0\np 0\ne 18\n", 0);
        StringBuilder all = new StringBuilder("%F1\nx 40\n");
        for (int n = 1; n <= 40; n++) {
            all.append(n).append(" -\n");
        }
        fault("forty rows", all + "p 0\ne 4\n", GOOD);
        String more = all.toString().replace("x 40", "x 41");
        fault("forty-one rows", more + "40 -\np 0\ne 4\n", more.length());
    }

    private static void pLine() {
        fault("another letter", "%F1\nx 0\nq 0\ne 4\n", 8);
        fault("no number", "%F1\nx 0\np -\ne 4\n", 8);
        fault("none", "%F1\nx 0\ne 4\n\n\n\n\ne 4\n", 8);
        fault("Q is the place of the x", "%F1\nx 0\np 4\ne 4\n", 8);
        fault("Q is behind the x", "%F1\nx 0\np 5\ne 4\n", 8);
        fault("Q is before the x", "%F1\nx 0\np 3\ne 4\n", 3);
        fault("a blank behind", "%F1\nx 0\np 0 \ne 4\n", 8);
        fault("the file ends before it", "%F1\n....\n...\nx 1\ne 9\n", 9);
    }

    private static void eLine() {
        fault("another place than told", "%F1\nx 0\np 0\ne 5\ne 4\n", 12);
        fault("no e", "%F1\nx 0\np 0\nf 4\ne 4\n", 12);
        fault("not the last line", "%F1\nx 0\np 0\ne 4\ne 4\n", 16);
        fault("not the last line, others between", "%F1\nx 0\np 0\ne 4\n\nabc\ne 4\n", 16);
        fault("a blank behind", "%F1\nx 0\np 0\ne 4 \ne 4\n", 12);
    }

    private static void record(String why, String record, boolean good) {
        String head = "%F1\n" + record;
        fault(why, head + "x 1\n7 4\np 0\ne " + head.length() + "\n", good ? GOOD : 4);
    }

    private static void records() {
        record("three bytes", "o 7 3\nabc\n", true);
        record("three bytes and more behind", "o 7 3\nabc\nde", true);
        record("no bytes", "o 7 0\n\n", true);
        record("another letter", "O 7 3\nabc\n", false);
        record("no o", "3\nabc\n", false);
        record("only an o", "o3\nabc\n", false);
        record("only a length", "o 3\nabc\n", false);
        record("another number", "o 8 3\nabc\n", false);
        record("number 07", "o 07 3\nabc\n", false);
        record("no blank", "o 73\nabc\n", false);
        record("two blanks", "o 7  3\nabc\n", false);
        record("another blank", "o 7\t3\nabc\n", false);
        record("a blank behind", "o 7 3 \nabc\n", false);
        record("length 03", "o 7 03\nabc\n", false);
        record("no length", "o 7 \nabc\n", false);
        record("a byte too few", "o 7 3\nab\n", false);
        record("a byte too many", "o 7 3\nabcd\n", false);
        record("no 10 behind", "o 7 3\nabc ", false);
        record("the 10 is the x", "o 7 3\nabc", false);
        record("longest", "o 7 120\n" + "z".repeat(120) + "\n", true);
        record("too long", "o 7 121\n" + "z".repeat(121) + "\n", false);
        record("far too long", "o 7 99999\n" + "z".repeat(99) + "\n", false);
        record("a length that reaches into the rows", "o 7 4\nabc\n", false);
        String two = "%F1\no 1 0\n\no 2 0\n\n";
        fault("the second one is of another number", two + "x 2\n1 4\n2 4\np 0\ne 18\n", 4);
        fault("the second one is none", two + "x 2\n1 4\n2 12\np 0\ne 18\n", 12);
        fault("both are none: the first row's", two + "x 2\n1 12\n2 5\np 0\ne 18\n", 12);
        fault("gone ones have none", two + "x 3\n1 -\n2 12\n3 -\np 0\ne 18\n", 12);
        // The byte behind three bytes is the line end of the row, behind the x.
        fault("its 10 is behind the x", "%F1\no 7 5\nabx 1\n7 4\np 0\ne 12\n", 4);
    }

    private static RevisionWrite threeParts() {
        RevisionWrite x = new RevisionWrite();
        Check.bring(x, 1, "a");
        x.write(0);
        Check.bring(x, 2, "b");
        x.append();
        x.drop(1);
        Check.bring(x, 3, "c");
        x.append();
        return x;
    }

    // o1:4 x:12 "1 4":16 p:20 e:24, o2:29 x:37 "2 29":41 p:46 e:51, o3:56 x:64 "1 -":68 "3 56":72 p:77 e:82, size 87
    private static void poked(String why, int place, char byteThere, int fault) {
        RevisionWrite x = threeParts();
        x.poke(place, (byte) byteThere);
        Check.due(why, x.read(), fault == GOOD ? 3 : -1 - fault);
    }

    private static void partsBefore() {
        Check.due("three parts", Check.fileOf(threeParts()), "%F1\no 1 1\na\nx 1\n1 4\np 0\ne 12\n"
            + "o 2 1\nb\nx 1\n2 29\np 12\ne 37\no 3 1\nc\nx 2\n1 -\n3 56\np 37\ne 64\n");
        poked("a byte of an object", 10, 'A', GOOD);
        poked("a record of the first part", 4, 'p', 4);
        poked("a record of the second part", 29, 'p', 29);
        poked("a record of the third part", 56, 'p', 56);
        poked("x of the first part", 12, 'y', 12);
        poked("x of the second part", 37, 'y', 37);
        poked("x of the third part", 64, 'y', 64);
        poked("a row of the first part", 16, '0', 16);
        poked("a row of the second part", 41, '0', 41);
        poked("p of the first part", 20, 'q', 20);
        poked("p of the second part", 46, 'q', 46);
        poked("p of the third part tells another", 79, '2', 27);
        poked("p of the third part tells its first", 78, 'x', 77);
        poked("e of the first part", 26, '2', 24);
        poked("e of the second part", 54, '6', 51);
        poked("e of the third part", 85, '5', 65);
        poked("the line end of the second part's e", 55, 'e', 51);
        RevisionWrite x = threeParts();
        Check.pokeAll(x, 79, "12");
        Check.due("a part is left out", x.read(), 2);
        Check.due("left out: size(0)", x.size(0), 29);
        Check.due("left out: size(1)", x.size(1), 87);
        Check.due("left out: object 2", x.length(2), -1);
        Check.due("left out: object 3", Check.objectOf(x, 3), "c");
        Check.bring(x, 4, "d");
        Check.due("written behind it", x.append() > 0, true);
        Check.due("and read", x.read(), 3);
        RevisionWrite y = threeParts();
        Check.pokeAll(y, 72, "3 29");
        Check.due("a row tells an older record of another object", y.read(), -30);
        y.poke(31, (byte) '3');
        Check.due("that record is wrong for its own part", y.read(), -30);
        y.poke(41, (byte) '3');
        Check.due("both parts tell one record", y.read(), 3);
        Check.due("its place", y.place(2, 3), 29);
        Check.due("no difference but of the one that went", y.differ(1, 2), 1);
    }

    private static void orderInOnePart() {
        String two = "%F1\no 1 0\n\no 2 0\n\n";
        fault("x before rows", two + "x 02\n0 4\n2 12\np 9\ne 18\n", 18);
        fault("rows before p", two + "x 2\n0 4\n2 12\nq 0\ne 18\n", 22);
        fault("p before e", two + "x 2\n1 4\n2 12\nq 0\ne 17\ne 18\n", 31);
        fault("e before records", two + "x 2\n1 4\n2 12\np 0\ne 17\ne 18\n", 35);
        fault("the last line before records", two + "x 2\n1 4\n2 12\np 0\ne 18\n\ne 18\n", 40);
        fault("records before the part before", two + "x 2\n1 4\n2 12\np 4\ne 18\n", 12);
        fault("then the part before", two + "x 2\n1 4\n2 11\np 4\ne 18\n", 4);
    }

    private static void placesInsideLines() {
        RevisionWrite x = new RevisionWrite();
        String inner = "x 1\n9 -\np 0\ne 10\n";
        Check.bring(x, 1, inner);
        x.write(0);
        Check.due("the outer part", x.read(), 1);
        // "%F1\n" 4, "o 1 17\n" 7: the inner part is at 11.
        int p = Check.fileOf(x).lastIndexOf("p 0");
        x.poke(p + 2, (byte) '4');
        Check.due("a part that is none", x.read(), -5);
        x.poke(p + 2, (byte) '0');
        Check.due("mended", x.read(), 1);
        RevisionWrite y = new RevisionWrite();
        Check.bring(y, 1, "x 1\n9 -\np 0\ne 11\n");
        Check.bring(y, 2, "");
        y.write(0);
        // "e X" of the file's end has two digits; the inner e is not the last line.
        int e = Check.fileOf(y).lastIndexOf("e ");
        Check.pokeAll(y, e + 2, "11");
        Check.due("an inner part as the last one", y.read(), -1 - 28);
    }

    private static void tooManyParts() {
        RevisionWrite x = new RevisionWrite();
        x.write(0);
        for (int i = 1; i < 59; i++) {
            x.object(1, 0);
            x.append();
        }
        // The first part's "p 0" is at 8; 3 is less than its x, and there is no part.
        x.poke(10, (byte) '3');
        Check.due("a 60th part that is none", x.read(), -4);
        x.poke(10, (byte) '0');
        Check.due("59 parts", x.read(), 59);
        x.object(1, 0);
        x.append();
        Check.due("60 parts", x.read(), 60);
        x.poke(10, (byte) '3');
        Check.due("a 61st part", x.read(), -9);
        Check.due("a 61st part: revisions stay", x.told(1), 60);
    }

    /** The 60th part's p is looked at before its e and before its records. */
    private static void tooManyBeforeOthers() {
        RevisionWrite x = new RevisionWrite();
        x.object(1, 1);
        x.write(0);
        for (int i = 1; i < 60; i++) {
            x.object(1, i % 3);
            x.append();
        }
        // "%F1", "o 1 1" at 4, its byte, x at 12, "1 4" at 16, "p 0" at 20, "e 12" at 24.
        x.poke(26, (byte) '2');
        Check.due("the e of the 60th part", x.read(), -25);
        x.poke(22, (byte) '3');
        Check.due("the p of the 60th part", x.read(), -21);
        x.poke(16, (byte) '0');
        Check.due("a row of the 60th part", x.read(), -17);
        x.poke(16, (byte) '1');
        x.poke(26, (byte) '1');
        x.poke(4, (byte) 'O');
        Check.due("the p of the 60th part, before a record", x.read(), -21);
        x.poke(22, (byte) '0');
        Check.due("a record of the 60th part", x.read(), -5);
        x.poke(4, (byte) 'o');
        Check.due("60 parts", x.read(), 60);
    }

    private static String rowsOnly(String... rows) {
        return "%F1\nx " + rows.length + "\n" + String.join("", rows) + "p 0\ne 4\n";
    }

    private static void boundsOfRows() {
        fault("N = 1", rowsOnly("1 -\n"), GOOD);
        fault("N = 40", rowsOnly("40 -\n"), GOOD);
        fault("N = 0", rowsOnly("0 -\n"), 8);
        fault("N = 41", rowsOnly("41 -\n"), 8);
        fault("N = 257", rowsOnly("257 -\n"), 8);
        fault("N = 65537", rowsOnly("65537 -\n"), 8);
        fault("one above the one before", rowsOnly("39 -\n", "40 -\n"), GOOD);
        fault("far above the one before", rowsOnly("1 -\n", "40 -\n"), GOOD);
        fault("the same as the one before", rowsOnly("39 -\n", "39 -\n"), 13);
        fault("one below the one before", rowsOnly("39 -\n", "38 -\n"), 13);
        fault("below the one before that", rowsOnly("2 -\n", "9 -\n", "3 -\n"), 16);
        fault("the first of two wrong ones", rowsOnly("1 -\n", "0 -\n", "41 -\n"), 12);
        fault("told none, there is one", "%F1\nx 0\n1 -\np 0\ne 4\n", 8);
        fault("told one, there is none", "%F1\nx 1\np 0\ne 4\n", 8);
        fault("told two, there is one", "%F1\nx 2\n1 -\np 0\ne 4\n", 12);
        fault("told one, there are two", "%F1\nx 1\n1 -\n2 -\np 0\ne 4\n", 12);
    }

    /** X, P and Q on both sides of their bounds: the last that is less goes on to what is wrong at that place. */
    private static void boundsOfPlaces() {
        fault("X is the last line's place", "%F1\nx 0\np 0\ne 12\n", 12);
        fault("X is one less: no x there", "%F1\nx 0\np 0\ne 11\n", 11);
        fault("P is the place of the x", "%F1\nx 1\n1 4\np 0\ne 4\n", 8);
        fault("P is one less: no record there", "%F1\nx 1\n1 3\np 0\ne 4\n", 3);
        fault("P is 0: no record there", "%F1\nx 1\n1 0\np 0\ne 4\n", 0);
        fault("Q is the place of the x", "%F1\nx 0\np 4\ne 4\n", 8);
        fault("Q is the place of the x, before a wrong e", "%F1\nx 0\np 4\ne 5\ne 4\n", 8);
        fault("Q is the place of the x, before a wrong record", "%F1\nx 1\n1 0\np 4\ne 4\n", 12);
        fault("Q is one less: no x there", "%F1\nx 0\np 3\ne 4\n", 3);
        fault("Q is 1: no x there", "%F1\nx 0\np 1\ne 4\n", 1);
        fault("Q is 0: no part before", "%F1\nx 0\np 0\ne 4\n", GOOD);
        fault("the e tells one less", "%F1\nx 0\np 0\ne 3\ne 4\n", 12);
        fault("the e tells one more", "%F1\nx 0\np 0\ne 5\ne 4\n", 12);
        // The last line tells its own x; the e of the part that is told is another line.
        fault("one line behind the part's e", "%F1\nx 0\np 0\ne 4\n\ne 4\n", 16);
        RevisionWrite x = Check.holding("%F1\nx 0\np 0\ne 4\nx 0\np 4\ne 16\n");
        Check.due("only of the last part the e is the last line", x.read(), 2);
    }

    private static void boundsOfRecords() {
        for (int length : new int[] {0, 1, 9, 10, 99, 100, 119, 120}) {
            record("L = " + length, "o 7 " + length + "\n" + "z".repeat(length) + "\n", true);
            record("L = " + length + ", one byte more", "o 7 " + length + "\n" + "z".repeat(length + 1) + "\n", false);
            record("L = " + length + ", no 10", "o 7 " + length + "\n" + "z".repeat(length), false);
        }
        for (int length : new int[] {121, 122, 128, 255, 256, 257}) {
            record("L = " + length, "o 7 " + length + "\n" + "z".repeat(length) + "\n", false);
        }
        record("bytes that are all 10", "o 7 5\n\n\n\n\n\n\n", true);
        record("bytes that are all 10, one fewer", "o 7 5\n\n\n\n\n\n", false);
        // Its 10 is the x line's end: behind the x, though the file has it.
        record("its 10 is in the x line", "o 7 5\nab", false);
        record("its bytes end before the x, its 10 does not", "o 7 2\nab", false);
        fault("N = 40", "%F1\no 40 0\n\nx 1\n40 4\np 0\ne 12\n", GOOD);
        fault("N of another row", "%F1\no 40 0\n\nx 1\n4 4\np 0\ne 12\n", 4);
    }

    /** Places of five digits, up to the last one: a full file with one byte wrong. */
    private static void greatestFile() {
        RevisionWrite x = Check.lacking(0);
        int parts = x.told(1);
        int last = x.size(parts - 2);
        int record = x.place(parts - 1, 1);
        Check.due("the last part's record", record, last);
        int[] wrong = {11999, 11992, 11984, 11976, 11972, record, 3};
        int[] faults = {12000, 11992, 11984, 11976, 11972, record, 0};
        for (int i = 0; i < wrong.length; i++) {
            byte was = x.poke(wrong[i], (byte) '?');
            Check.due("a wrong byte at " + wrong[i], x.read(), -1 - faults[i]);
            x.poke(wrong[i], was);
            Check.due("mended at " + wrong[i], x.read(), parts);
        }
    }
}
