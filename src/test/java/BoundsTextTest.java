import java.util.regex.Matcher;
import java.util.regex.Pattern;

/** The edges that promises 6 to 8 and the TEXTS name, a test for each sentence: the tape, what it tells, faults. */
public final class BoundsTextTest {
    private static final Check check = new Check();
    private static final String SORTS = "wqgds";
    private static final String FIVE_MACHINES = "l1;w1,0;q1,0;g1,0;d1,0;s1,0;";
    private static final String SIX_LOADS = "l1;w1,0;b1,0;b1,0;b1,0;b1,0;b1,0;b1,0;";
    private static final String LONGEST =
        "l05;w09,05;q09,05;g09,05;d09,05;s09,05;b09,60;b09,60;b09,60;b09,60;b09,60;b09,60;";

    public static void main(String[] args) {
        bytesAre0To255();
        theTapeHas110();
        theTapeIsEmptyThen();
        powerIs1To5();
        roomIs1To9();
        slowIs0To5();
        sizeIs1To9();
        dueIs0To60();
        numbersHave2FiguresAtMost();
        machinesAre1To5();
        loadsAre1To6();
        lettersAndSigns();
        theEndIsAPlace();
        theFirstTokenThatHasAFault();
        ofOneTokenTheLeast();
        whatIsReadStandsInPlaceOfTheOneBefore();
        behindAFaultAllStays();
        faultIsTheLatest();
        everyByteAtEveryPlace();
        check.end();
    }

    private static void well(String text, int machines) {
        Run run = new Run();
        check.due("machines of '" + text + "'", run.call("tell " + text), machines);
        check.due("no fault of '" + text + "'", run.call("fault"), 0);
    }

    private static void faulty(String text, int fault, int place) {
        LaundryLoads x = new LaundryLoads();
        check.due("place of the fault of '" + text + "'", Check.tell(x, text), -1000100 - place);
        check.due("fault of '" + text + "'", x.fault(), fault);
        check.due("no machines by '" + text + "'", x.count(1), 0);
        check.due("no loads by '" + text + "'", x.count(2), 0);
        check.due("the tape behind '" + text + "'", x.count(8), 0);
    }

    private static void bytesAre0To255() {
        new Given(check, "feeds l1;w1,0;b1,0", "drop 3").ends("feed ?", 0, 13, 255, 13);
    }

    private static void theTapeHas110() {
        Given full = new Given(check, "109*feed 0").answers("feed 0", 110).then("feed 0");
        full.answers("count 8", 110).refuses("feed 0", Check.FULL).refuses("feed 255", Check.FULL);
        full.refuses("feed -1", Check.BAD).refuses("feed 256", Check.BAD);
        full.answers("launderette", -1000100).then("launderette").answers("feed 0", 1);
        // 110 of them are read, and where the 111th was refused is the end
        String read = "l".repeat(110);
        check.due("110 letters", new Run("feeds " + read).call("launderette"), -1000101);
        check.due("more than 2 figures, up to the 110th", new Run("feeds l" + "1".repeat(109)).call("launderette"),
            -1000101);
        check.due("one more is not read", new Run("feeds " + read, "feed 59", "launderette").call("count 8"), 0);
    }

    private static void theTapeIsEmptyThen() {
        new Given(check, "feeds l1;w1,0;b1,0;").answers("count 8", 13).then("launderette").answers("count 8", 0)
            .answers("launderette", -1000100).answers("feed 59", 1);
        new Given(check, "feeds l1;w1,0;b1,0").then("launderette").answers("count 8", 0)
            .answers("tell ;", -1000100).answers("tell l1;d1,0;w1,0;b1,0;", 2);
    }

    private static void powerIs1To5() {
        for (int v = 1; v <= 5; v++) {
            well("l" + v + ";w1,0;b1,0;", 1);
            check.due("power " + v, new Run("tell l" + v + ";w1,0;b1,0;").call("stand 0"), v);
        }
        for (String v : new String[] {"0", "00", "6", "06", "10", "99"}) {
            faulty("l" + v + ";w1,0;b1,0;", 2, 1);
        }
    }

    private static void roomIs1To9() {
        for (int sort = 0; sort < 5; sort++) {
            String letter = SORTS.substring(sort, sort + 1);
            new Given(check, "tell l1;" + letter + "1,0;b1,0;").answers("machine 0 0", 1).answers("kind 0", sort + 1);
            new Given(check, "tell l1;" + letter + "9,0;b1,0;").answers("machine 0 0", 9).answers("kind 0", sort + 1);
            faulty("l1;" + letter + "0,0;b1,0;", 2, 4);
            faulty("l1;" + letter + "10,0;b1,0;", 2, 4);
            faulty("l1;w9,0;" + letter + "99,0;b1,0;", 2, 9);
        }
    }

    private static void slowIs0To5() {
        for (int sort = 0; sort < 5; sort++) {
            String letter = SORTS.substring(sort, sort + 1);
            new Given(check, "tell l1;" + letter + "1,0;b1,0;").answers("machine 0 1", 0);
            new Given(check, "tell l1;" + letter + "1,5;b1,0;").answers("machine 0 1", 5);
            faulty("l1;" + letter + "1,6;b1,0;", 2, 6);
            faulty("l1;" + letter + "1,10;b1,0;", 2, 6);
        }
    }

    private static void sizeIs1To9() {
        new Given(check, "tell l1;w1,0;b1,0;b9,0;").answers("load 0 0", 1).answers("load 1 0", 9);
        faulty("l1;w1,0;b0,0;", 2, 9);
        faulty("l1;w1,0;b10,0;", 2, 9);
        faulty("l1;w1,0;b1,0;b00,0;", 2, 14);
    }

    private static void dueIs0To60() {
        new Given(check, "tell l1;w1,0;b1,0;b1,60;b1,59;").row("load ? 1", 0, 60, 59);
        faulty("l1;w1,0;b1,61;", 2, 11);
        faulty("l1;w1,0;b1,99;", 2, 11);
        faulty("l1;w1,0;b1,0;b1,61;", 2, 16);
    }

    private static void numbersHave2FiguresAtMost() {
        well("l01;w09,05;b09,00;", 1);
        faulty("l001;w1,0;b1,0;", 1, 1);
        faulty("l000;w1,0;b1,0;", 1, 1);
        faulty("l1;w001,0;b1,0;", 1, 4);
        faulty("l1;w1,000;b1,0;", 1, 6);
        faulty("l1;w1,0;b001,0;", 1, 9);
        faulty("l1;w1,0;b1,060;", 1, 11);
        faulty("l1;w1,0;b1,0000000000000000000000000000060;", 1, 11);
        // 4294967297 is 1 around the greatest int
        faulty("l4294967297;w1,0;b1,0;", 1, 1);
        // where no number can stand, at its first as well
        faulty("111", 1, 0);
        faulty("l1;w1,0;b1,0;000", 1, 13);
    }

    private static void machinesAre1To5() {
        well("l1;w1,0;b1,0;", 1);
        well(FIVE_MACHINES + "b1,0;", 5);
        faulty("l1;", 1, 3);
        faulty("l1;b1,0;", 1, 3);
        for (int sort = 0; sort < 5; sort++) {
            faulty(FIVE_MACHINES + SORTS.charAt(sort), 3, 28);
            faulty(FIVE_MACHINES + SORTS.charAt(sort) + "1,0;b1,0;", 3, 28);
        }
        faulty(FIVE_MACHINES, 1, 28);
    }

    private static void loadsAre1To6() {
        well(SIX_LOADS, 1);
        check.due("six", new Run("tell " + SIX_LOADS).call("count 2"), 6);
        well(LONGEST, 5);
        check.due("the longest: bytes", LONGEST.length(), 81);
        faulty("l1;w1,0;", 1, 8);
        faulty(SIX_LOADS + "b", 3, 38);
        faulty(SIX_LOADS + "b1,0;", 3, 38);
        faulty(SIX_LOADS + "bb", 3, 38);
        faulty(SIX_LOADS + "w", 1, 38);
        faulty(LONGEST + "b", 3, 81);
        faulty(LONGEST + "w", 1, 81);
    }

    private static void lettersAndSigns() {
        for (char none : new char[] {0, 10, 32, '+', '-', '.', '/', ':', '<', '@', 'A', 'L', 'Z', '[', '`', '{', 127,
            128, 255}) {
            faulty(none + "1;w1,0;b1,0;", 1, 0);
            faulty("l" + none + ";w1,0;b1,0;", 1, 1);
            faulty("l1" + none + "w1,0;b1,0;", 1, 2);
            faulty("l1;" + none + "1,0;b1,0;", 1, 3);
            faulty("l1;w1" + none + "0;b1,0;", 1, 5);
            faulty("l1;w1,0;" + none + "1,0;", 1, 8);
            faulty("l1;w1,0;b1,0" + none, 1, 12);
            faulty("l1;w1,0;b1,0;" + none, 1, 13);
            faulty("l1" + none + ";w1,0;b1,0;", 1, 2);
        }
        for (char letter = 'a'; letter <= 'z'; letter++) {
            if (letter != 'l') {
                faulty(letter + "1;w1,0;b1,0;", 1, 0);
            }
            if (SORTS.indexOf(letter) < 0) {
                faulty("l1;" + letter + "1,0;b1,0;", 1, 3);
            }
            if (SORTS.indexOf(letter) < 0 && letter != 'b') {
                faulty("l1;w1,0;" + letter + "1,0;", 1, 8);
                faulty(FIVE_MACHINES + letter, 1, 28);
            }
            if (letter != 'b') {
                faulty("l1;w1,0;b1,0;" + letter + "1,0;", 1, 13);
            }
        }
        faulty("l1,w1,0;b1,0;", 1, 2);
        faulty("l1;w1;0;b1,0;", 1, 5);
        faulty("l1;w1,0,b1,0;", 1, 7);
        faulty("l1;w1,0;b1;0;", 1, 10);
        faulty("l1;w1,0;b1,0,", 1, 12);
        faulty("l1;w1,0;b1,0;;", 1, 13);
        faulty("l1;w1,0;b1,0;,", 1, 13);
        faulty(";l1;w1,0;b1,0;", 1, 0);
    }

    private static void theEndIsAPlace() {
        String text = "l1;w1,0;b1,0;";
        for (int length = 0; length < text.length(); length++) {
            faulty(text.substring(0, length), 1, length);
        }
        faulty("l1;w1,0;b1,00", 1, 13);
    }

    private static void theFirstTokenThatHasAFault() {
        faulty("l9;w0,9;b0,99;?", 2, 1);
        faulty("l1;w0,9;b0,99;?", 2, 4);
        faulty("l1;w1,9;b0,99;?", 2, 6);
        faulty("l1;w1,0;b0,99;?", 2, 9);
        faulty("l1;w1,0;b1,99;?", 2, 11);
        faulty("l9?", 2, 1);
        faulty("l9", 2, 1);
        faulty("l9999", 1, 1);
        faulty("l1;w1,0?b1,0;l9;", 1, 7);
        faulty(FIVE_MACHINES + "w99,99;", 3, 28);
        faulty("l9;" + FIVE_MACHINES.substring(3) + "w1,0;", 2, 1);
    }

    private static void ofOneTokenTheLeast() {
        // too many figures, and not as told: 1 is the least
        faulty("l999;w1,0;b1,0;", 1, 1);
        // a number not as told where none can stand
        faulty("l1;99", 1, 3);
        // a machine more than there is room for, where none can stand
        faulty(FIVE_MACHINES + "b1,0;w1,0;", 1, 33);
        faulty(SIX_LOADS.replace("w1,0;", "w1,0;q1,0;g1,0;d1,0;s1,0;") + "w", 1, 58);
    }

    private static void whatIsReadStandsInPlaceOfTheOneBefore() {
        Given before = new Given(check, "tell l2;q9,0;s9,0;w9,5;b4,0;b2,0;b9,9;", "ticks 9", "shut 0", "shut 2", "power 5",
            "due 1 99", "again 0 7");
        // load 0 is washed at tick 2, load 2 at 6, load 1 at 7; load 0 is dry at 8
        before.row("count ?", 0, 3, 3, 9, 0, 4, 9, 14, 0);
        Given after = before.answers("tell l3;q8,1;s7,2;b1,60;b2,0;b3,1;b4,2;", 2)
            .then("tell l3;q8,1;s7,2;b1,60;b2,0;b3,1;b4,2;");
        after.row("count ?", 0, 2, 4, 0, 0, 0, 0, 0, 0).answers("fault", 0);
        after.row("stand ?", 3, 15, 0, 0, 3, 0).refuses("undo", Check.STATE);
        after.row("machine 0 ?", 8, 1, 1, Check.NONE, 0, 0, 1).row("machine 1 ?", 7, 2, 1, Check.NONE, 0, 0, 0);
        after.row("load 0 ?", 1, 60, 0, Check.NONE, 0).row("load 3 ?", 4, 2, 0, Check.NONE, 0);
        after.refuses("machine 2 0", Check.BAD).refuses("load 4 0", Check.BAD);
        // it goes on as a new object with that text does
        check.due("as on a new object", after("l3;q8,1;s7,2;b1,60;b2,0;b3,1;b4,2;", "tell l2;q9,0;s9,0;w9,5;b4,0;b2,0;",
            "ticks 9", "shut 0").equals(after("l3;q8,1;s7,2;b1,60;b2,0;b3,1;b4,2;")) ? 1 : 0, 1);
        // the same text once more begins anew
        before.then("tell l2;q9,0;s9,0;w9,5;b4,0;b2,0;b9,9;").row("count ?", 0, 3, 3, 0, 0, 0, 0, 0, 0);
        // rows, trace and status stay
        new Given(check, "tell l1;w1,0;b1,0;", "row 2 1 3", "ask 0 1", "as 0 5", "tell l1;d1,0;b1,0;")
            .answers("count 0", 1).answers("drop 2", 3).answers("status", 3)
            .row("trace ?", 21, 20, Check.NONE);
    }

    private static String after(String text, String... before) {
        Run run = new Run(before);
        run.call("tell " + text);
        run.call("ticks 5");
        return run.seen();
    }

    private static void behindAFaultAllStays() {
        String[] before = {"tell l9;", "tell l2;q9,0;s9,0;w9,5;b4,0;b2,0;b9,9;", "image 0", "ticks 9", "shut 0", "power 5",
            "image 1", "row 2 1 3", "ask 0 1", "as 0 5"};
        // all of the same number as the fault that was there
        for (String text : new String[] {"l0;", "l1;w0,0;", "l1;w1,6;", "l1;w1,0;b0,0;", "l1;w1,0;b1,0;b1,0;b1,61;"}) {
            Run tried = new Run(before);
            check.due("a fault of '" + text + "'", tried.call("tell " + text) < -1000100 ? 1 : 0, 1);
            check.due("status behind '" + text + "'", tried.call("status"), 3);
            check.due("all stays behind '" + text + "'", tried.seen().equals(new Run(before).seen()) ? 1 : 0, 1);
        }
        Given empty = new Given(check, "tell l2;q9,0;s9,0;b4,0;", "ticks 2").answers("launderette", -1000100);
        empty.then("launderette").answers("fault", 1).row("count ?", 0, 2, 1, 2, 0, 0, 2, 2, 0);
    }

    private static void faultIsTheLatest() {
        new Given(check).answers("fault", 0);
        new Given(check, "tell l1;w1,0;b1,0;").answers("fault", 0);
        Given three = new Given(check, "tell " + SIX_LOADS + "b").answers("fault", 3);
        Given two = three.then("tell l0;").answers("fault", 2);
        two.then("tell l1;w1,0;b1,0;").answers("fault", 2).then("ticks 1", "undo").answers("fault", 2);
        two.then("tell l").answers("fault", 1).then("feed 256", "feed 9").answers("fault", 1);
    }

    private static final Pattern TOKENS = Pattern.compile("[a-z]|[0-9]+|[^a-z0-9]", Pattern.DOTALL);

    /** The text read once more, by its tokens: the answer of launderette(), and the number of the fault. */
    private static int[] readPlainly(String text) {
        String clause = "";
        int machines = 0;
        int loads = 0;
        Matcher tokens = TOKENS.matcher(text);
        while (tokens.find()) {
            String token = tokens.group();
            int place = -1000100 - tokens.start();
            if (clause.isEmpty()) {
                boolean law = tokens.start() == 0;
                boolean sort = !law && loads == 0 && SORTS.contains(token);
                boolean load = machines > 0 && token.equals("b");
                if (law ? !token.equals("l") : !sort && !load) {
                    return new int[] {place, 1};
                }
                if (sort && ++machines > 5 || load && ++loads > 6) {
                    return new int[] {place, 3};
                }
                clause = law ? "law" : sort ? "room" : "size";
                continue;
            }
            boolean number = token.matches("[0-9]{1,2}");
            int v = number ? Integer.parseInt(token) : -1;
            String next = nextIn(clause, token, number);
            if (next == null) {
                return new int[] {place, 1};
            }
            if (number && (v < (clause.equals("slow") || clause.equals("due") ? 0 : 1) || v > most(clause))) {
                return new int[] {place, 2};
            }
            clause = next;
        }
        return clause.isEmpty() && loads > 0 ? new int[] {machines, 0} : new int[] {-1000100 - text.length(), 1};
    }

    private static int most(String clause) {
        return clause.equals("law") || clause.equals("slow") ? 5 : clause.equals("due") ? 60 : 9;
    }

    private static String nextIn(String clause, String token, boolean number) {
        switch (clause) {
            case "law": case "slow": case "due": return number ? ";" : null;
            case "room": case "size": return number ? clause + "," : null;
            case "room,": return token.equals(",") ? "slow" : null;
            case "size,": return token.equals(",") ? "due" : null;
            default: return token.equals(";") ? "" : null;
        }
    }

    private static void asReadPlainly(String text) {
        int[] due = readPlainly(text);
        LaundryLoads x = new LaundryLoads();
        check.due("'" + text + "'", Check.tell(x, text), due[0]);
        check.due("fault of '" + text + "'", x.fault(), due[1]);
    }

    private static void everyByteAtEveryPlace() {
        for (String text : new String[] {"l1;w1,0;b1,0;", "l5;s09,5;q9,05;b09,60;b9,6;", SIX_LOADS, FIVE_MACHINES + "b1,0;"}) {
            for (int at = 0; at <= text.length(); at++) {
                asReadPlainly(text.substring(0, at));
                for (int letter = 0; letter < 256; letter++) {
                    asReadPlainly(text.substring(0, at) + (char) letter + text.substring(at));
                    asReadPlainly(text.substring(0, at) + (char) letter + text.substring(Math.min(text.length(), at + 1)));
                }
            }
        }
    }
}
