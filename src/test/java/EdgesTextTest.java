import java.util.ArrayList;
import java.util.List;
import java.util.regex.Matcher;
import java.util.regex.Pattern;

/** Promises 43 to 47, each sentence that names an edge or a refusal: texts. */
public final class EdgesTextTest {
    private static final int NONE = FilterPile.NONE, BAD = FilterPile.BAD, FULL = FilterPile.FULL, NOT = FilterPile.NOT;
    private static final int MOST = Probe.MOST, LEAST = Probe.LEAST;
    private static final Pattern TEXT = Pattern.compile(textPattern(3));
    private static final Pattern INNERMOST = Pattern.compile("([2-4])\\(([^()]*)\\)");

    public static void main(String[] args) {
        feedNoByte();
        feedFull();
        wipeEmptyAndFull();
        readNothing();
        readItemsAndWhatIsBetween();
        readGroupFigures();
        readGroupsThreeDeep();
        readAngles();
        readFigures();
        readNumbersAbove16();
        readEndsTooEarly();
        readNoBlanksNoOtherBytes();
        readWhatIsNotToldIs0();
        readEightAndNine();
        readFaultAheadOfFull();
        readSixtyBytes();
        readEmptiesTheTape();
        readRefusedLeavesAllElse();
        readAllShortTexts();
        whyRefused();
        whyNoneAtFirst();
        whyOpenGroups();
        whyHowManyThereWouldBe();
        whyTheLatest();
        whyOfOtherFulls();
        spelledRefused();
        spelledWithoutFilters();
        spelledAsShortAsItCanBe();
        Due.end();
    }

    // ---- promises 43, 44

    private static void feedNoByte() {
        for (int letter : new int[] {0, 128, -1, 255, 256 + 'g', LEAST, MOST}) {
            Probe.refused("43 BAD: " + letter, x -> x.feed(letter), BAD);
        }
        FilterPile x = new FilterPile();
        Due.due("43 the least byte", x.feed(1), 1);
        Due.due("43 the greatest byte", x.feed(127), 2);
    }

    private static FilterPile fullTape() {
        FilterPile x = new FilterPile();
        Due.feed(x, "g;".repeat(30));
        return x;
    }

    private static void feedFull() {
        FilterPile x = new FilterPile();
        for (int n = 1; n <= 60; n++) {
            Due.due("43 how many it has", x.feed(n), n);
        }
        Due.due("43 FULL: 60 at most", x.feed('g'), FULL);
        Due.due("43 60 still", x.count(1), 60);
        Probe.changesNothing("43 FULL", EdgesTextTest::fullTape, y -> y.feed('g'), FULL);
        Probe.changesNothing("43 BAD ahead of FULL: 0", EdgesTextTest::fullTape, y -> y.feed(0), BAD);
        Probe.changesNothing("43 BAD ahead of FULL: 128", EdgesTextTest::fullTape, y -> y.feed(128), BAD);
    }

    private static void wipeEmptyAndFull() {
        Probe.refusedByNew("44 how many it had: none", x -> x.wipe(), 0);
        FilterPile x = fullTape();
        Due.due("44 how many it had: 60", x.wipe(), 60);
        Due.due("44 how many it had: none any more", x.wipe(), 0);
        Due.due("44 room again", x.feed('g'), 1);
        Due.due("44 nothing of what it had is read", x.read(), 1);
    }

    // ---- promise 45

    /** A FAULT at this place, these GROUPS open; THE PILE stays, THE TAPE is empty. */
    private static void dueFault(String words, String text, int place, int... opens) {
        FilterPile x = new FilterPile();
        x.add(4, 3, 2);
        Due.due("45 " + words + ": " + text, Due.read(x, text), -100 - place);
        int[] why = new int[2 * opens.length + 2];
        for (int i = 0; i < opens.length; i++) {
            why[2 * i] = 2;
            why[2 * i + 1] = opens[i];
        }
        why[2 * opens.length] = 1;
        why[2 * opens.length + 1] = place;
        Due.dueWhy("46 " + text, x, why);
        Due.dueText("45 by a FAULT THE PILE stays: " + text, Due.spelled(x), "w3,2");
        Due.due("45 THE TAPE is empty: " + text, x.count(1), 0);
    }

    private static void dueText(String words, String text, String spelled) {
        FilterPile x = new FilterPile();
        x.add(4, 3, 2);
        Due.due("45 " + words + ": " + text, Due.read(x, text), spelled.split(";").length);
        Due.dueText("45 " + words + ": " + text, Due.spelled(x), spelled);
        Due.due("45 no TROUBLE: " + text, x.count(2), 0);
        Due.due("45 THE TAPE is empty: " + text, x.count(1), 0);
    }

    private static void dueFull(String words, String text, int filters) {
        FilterPile x = new FilterPile();
        x.add(4, 3, 2);
        Due.due("45 " + words + ": " + text, Due.read(x, text), FULL);
        Due.dueWhy("46 " + words + ": " + text, x, 3, filters);
        Due.dueText("45 by FULL THE PILE stays: " + text, Due.spelled(x), "w3,2");
        Due.due("45 THE TAPE is empty: " + text, x.count(1), 0);
    }

    private static void readNothing() {
        dueFault("ITEMS, one or more", "", 0);
        Due.due("45 nothing on a new TAPE", new FilterPile().read(), -100);
    }

    private static void readItemsAndWhatIsBetween() {
        dueText("one ITEM", "g", "g");
        dueText("eight ITEMS", "g;y1;s1,2;p3;w0,4;r5;f6;g", "g;y1;s1,2;p3;w0,4;r5;f6;g");
        dueFault("; ahead of all", ";g", 0);
        dueFault("; behind all", "g;", 2);
        dueFault("; twice", "g;;g", 2);
        dueFault("no ; between", "gg", 1);
        dueFault("no ; between GROUPS", "2(g)2(g)", 4);
        dueFault("another sign between", "g,g", 1);
        dueFault("a ) too many", "g)", 1);
        dueFault("a ) too many behind a GROUP", "2(g))", 4);
    }

    private static void readGroupFigures() {
        dueFault("no figure", "(g)", 0);
        for (char figure : new char[] {'0', '1', '5', '9', '/', ':'}) {
            dueFault("a figure 2 .. 4", figure + "(g)", 0);
        }
        dueText("the least figure", "2(r1)", "r1;r1");
        dueText("the figure between", "3(r1)", "r1;r1;r1");
        dueText("the greatest figure", "4(r1)", "r1;r1;r1;r1");
        dueFault("two figures", "22(g)", 1);
        dueFault("no (", "2g", 1);
        dueFault("no TEXT in it", "2()", 2, 1);
        dueFault("; at the end of it", "2(g;)", 4, 1);
        dueFault("no ; behind it", "2(g)g", 4);
        dueText("one behind the other, not each twice", "2(r1;r2)", "r1;r2;r1;r2");
    }

    private static void readGroupsThreeDeep() {
        dueText("three open", "2(2(2(r1)))", "r1;r1;r1;r1;r1;r1;r1;r1");
        dueFault("none where 3 are open already", "2(2(2(2(r1))))", 6, 1, 3, 5);
        dueFault("none where 3 are open already, behind an ITEM", "2(2(2(g;2(g))))", 8, 1, 3, 5);
        dueText("none is open any more", "2(2(g));2(2(y1))", "g;g;g;g;y1;y1;y1;y1");
        dueText("two are open still", "2(2(g);2(g))", "g;g;g;g;g;g;g;g");
        dueFull("a third and a fourth, not at once", "2(2(2(g));2(2(g)))", 16);
    }

    private static void readAngles() {
        for (String letter : new String[] {"s", "p", "w"}) {
            String rest = letter.equals("p") ? "" : ",5";
            dueText("the least ANGLE", letter + "0" + rest, letter + "0" + rest);
            dueText("the greatest ANGLE", letter + "3" + rest, letter + "3" + rest);
            dueFault("an ANGLE 0 .. 3", letter + "4" + rest, 1);
            dueFault("an ANGLE is left out", letter + rest, 1);
            dueFault("an ANGLE of two figures", letter + "03" + rest, 2);
            dueFault("an ANGLE below 0", letter + "-1" + rest, 1);
        }
        dueFault("an ANGLE that POLAR tells, and a FIGURE that it does not", "p1,1", 2);
        dueFault("an ANGLE that GREY does not tell", "y1,1", 2);
        dueFault("an ANGLE that GLASS does not tell", "g1", 1);
    }

    private static void readFigures() {
        for (String start : new String[] {"y", "s1,", "w2,", "r", "f"}) {
            for (int n = 0; n <= 16; n++) {
                dueText("n 0 .. 16", start + n, start + n);
            }
            for (int n = 0; n <= 9; n++) {
                dueText("a 0 ahead (07 is 7)", start + "0" + n, start + n);
            }
            dueFault("no figure", start, start.length());
            dueFault("no figure, an ITEM more", start + ";g", start.length());
            dueFault("three figures, 0 ahead", start + "016", start.length() + 2);
            dueFault("three figures, all 0", start + "000", start.length() + 2);
            dueFault("three figures, of them two are 16", start + "160", start.length() + 2);
            dueFault("a number below 0", start + "-1", start.length());
            dueFault("a sign just below the figures", start + "/", start.length());
            dueFault("a sign just above the figures", start + ":", start.length());
            for (char first : new char[] {'0', '1', '9'}) {
                dueFault("a second sign just below the figures", start + first + "/", start.length() + 1);
                dueFault("a second sign just above the figures", start + first + ":", start.length() + 1);
            }
        }
        dueFault("no comma", "s1", 2);
        dueFault("no comma, but a figure", "s12", 2);
        dueFault("two commas", "w1,,2", 3);
    }

    private static void readNumbersAbove16() {
        for (String start : new String[] {"y", "s1,", "w2,", "r", "f"}) {
            for (int n = 17; n <= 99; n++) {
                dueFault("of a number above 16 its last figure", start + n, start.length() + 1);
            }
            dueFault("above 16, a figure more", start + "170", start.length() + 1);
            dueFault("above 16 in a GROUP", "3(" + start + "17)", start.length() + 3, 1);
        }
    }

    private static void readEndsTooEarly() {
        dueFault("the length, if it ends too early", "2", 1);
        dueFault("the length, if it ends too early", "2(", 2, 1);
        dueFault("the length, if it ends too early", "2(g", 3, 1);
        dueFault("the length, if it ends too early", "2(g;", 4, 1);
        dueFault("the length, if it ends too early", "2(3(g)", 6, 1);
        dueFault("the length, if it ends too early", "2(3(4(g", 7, 1, 3, 5);
        dueFault("the length, if it ends too early", "g;y", 3);
        dueFault("the length, if it ends too early", "g;s", 3);
        dueFault("the length, if it ends too early", "g;s1", 4);
        dueFault("the length, if it ends too early", "g;s1,", 5);
        dueFault("the length, if it ends too early", "g;p", 3);
        dueFault("the length, if it ends too early", "g;3", 3);
    }

    private static void readNoBlanksNoOtherBytes() {
        dueFault("without blanks", " g", 0);
        dueFault("without blanks", "g ", 1);
        dueFault("without blanks", "g; g", 2);
        dueFault("without blanks", "y 1", 1);
        dueFault("without blanks", "s1, 2", 3);
        dueFault("without blanks", "2 (g)", 1);
        for (int letter = 1; letter <= 127; letter++) {
            FilterPile x = new FilterPile();
            x.feed(letter);
            boolean begins = "gyspwrf234".indexOf(letter) >= 0;
            int due = letter == 'g' ? 1 : begins ? -101 : -100;
            Due.due("45 a byte alone: " + letter, x.read(), due);
        }
        dueFault("great letters", "G", 0);
    }

    private static void readWhatIsNotToldIs0() {
        FilterPile x = new FilterPile();
        x.add(3, 3, 16);
        x.add(5, 3, 16);
        Due.due("45 ANGLE is 0, FIGURE is 0 where they are not told", Due.read(x, "g;y16;p3;r16;f16"), 5);
        int[] codes = {0, 1016, 3300, 5016, 6016};
        for (int i = 0; i < 5; i++) {
            Due.due("45 ANGLE is 0, FIGURE is 0 where they are not told: " + i, x.of(i, 6), codes[i]);
        }
    }

    private static void readEightAndNine() {
        dueText("8 FILTERS in all", "4(2(g))", "g;g;g;g;g;g;g;g");
        dueText("8 FILTERS in all, the last of a GROUP", "g;g;3(y1;p0)", "g;g;y1;p0;y1;p0;y1;p0");
        dueFull("FULL: 9", "g;g;g;g;g;g;g;g;g", 9);
        dueFull("FULL: 9 by a GROUP", "g;4(y1;p0)", 9);
        dueFull("FULL: 9 by GROUPS in GROUPS", "3(3(g))", 9);
        dueFull("FULL: 9 by the last alone", "4(2(g));g", 9);
        dueFull("FULL: 9 by the first alone", "g;4(2(g))", 9);
    }

    private static void readFaultAheadOfFull() {
        dueFault("a FAULT behind nine", "3(3(g));x", 8);
        dueFault("a FAULT in a GROUP behind nine", "3(3(g);x)", 7, 1);
        dueFault("nine, and it ends too early", "3(3(g)", 6, 1);
        dueFault("nine, and a GROUP where 3 are open", "3(3(g);2(2(2(g))))", 11, 1, 8, 10);
    }

    private static void readSixtyBytes() {
        dueText("47 bytes, the most that eight FILTERS need", "s0,16;s1,16;s2,16;s3,16;w0,16;w1,16;w2,16;w3,16",
            "s0,16;s1,16;s2,16;s3,16;w0,16;w1,16;w2,16;w3,16");
        dueFull("59 bytes", "g;".repeat(29) + "g", 30);
        dueFull("60 bytes", "s0,16;".repeat(9) + "s0,1;g", 11);
        dueFault("60 bytes, ends too early", "g;".repeat(30), 60);
        dueFault("60 bytes, the last is one too many", "g;".repeat(29) + "gg", 59);
    }

    private static void readEmptiesTheTape() {
        FilterPile x = new FilterPile();
        for (String text : new String[] {"g;y1", "g;x", "4(4(g))", ""}) {
            Due.read(x, text);
            Due.due("45 THE TAPE is empty behind each read(): " + text, x.count(1), 0);
            Due.due("45 nothing is read twice: " + text, x.read(), -100);
        }
        Due.feed(x, "g".repeat(60));
        x.read();
        Due.due("45 room for 60 again", x.feed('g'), 1);
    }

    /** But for WHY and THE TAPE nothing is changed. */
    private static void readRefusedLeavesAllElse() {
        for (String text : new String[] {"g;x", "4(4(g))"}) {
            FilterPile x = Probe.rich();
            String before = Probe.state(x);
            x.wipe();
            Due.read(x, text);
            String behind = Probe.state(x);
            Due.dueText("45 all but WHY and THE TAPE stays: " + text, withoutWhyAndTape(behind), withoutWhyAndTape(before));
            Due.due("45 THE IMAGE stays: " + text, x.undo(), 2);
        }
    }

    private static String withoutWhyAndTape(String state) {
        return state.replaceAll("counts (\\S+) \\S+ \\S+", "counts $1").replaceAll(" why.*", "");
    }

    // ---- promise 45, all short TEXTS, against a pattern

    /** A TEXT with no more than so many GROUPS open at once. */
    private static String textPattern(int depth) {
        String number = "(?:1[0-6]|0?[0-9])";
        String filter = "g|[yrf]" + number + "|[sw][0-3]," + number + "|p[0-3]";
        String item = "(?:" + filter + (depth > 0 ? "|[2-4]\\(" + textPattern(depth - 1) + "\\)" : "") + ")";
        return item + "(?:;" + item + ")*";
    }

    /** Whether there is a TEXT that begins so. */
    private static boolean goesOn(String begun) {
        Matcher m = TEXT.matcher(begun);
        return m.matches() || m.hitEnd();
    }

    /** The FAULT of what is no TEXT, or -1. */
    private static int faultOf(String text) {
        for (int n = 1; n <= text.length(); n++) {
            if (!goesOn(text.substring(0, n))) {
                return n - 1;
            }
        }
        return TEXT.matcher(text).matches() ? -1 : text.length();
    }

    /** The places of the GROUPS that are open there. */
    private static int[] opensOf(String text, int fault) {
        List<Integer> opens = new ArrayList<>();
        for (int n = 0; n < fault; n++) {
            if (text.charAt(n) == '(') {
                opens.add(n);
            } else if (text.charAt(n) == ')') {
                opens.remove(opens.size() - 1);
            }
        }
        return opens.stream().mapToInt(Integer::intValue).toArray();
    }

    private static String withoutGroups(String text) {
        Matcher m = INNERMOST.matcher(text);
        if (!m.find()) {
            return text;
        }
        String inner = m.group(2);
        String all = inner + (";" + inner).repeat(m.group(1).charAt(0) - '1');
        return withoutGroups(text.substring(0, m.start()) + all + text.substring(m.end()));
    }

    private static void dueAsPattern(String text) {
        int fault = faultOf(text);
        if (fault >= 0) {
            dueFault("as the pattern tells", text, fault, opensOf(text, fault));
            return;
        }
        String flat = withoutGroups(text).replaceAll("(?<![0-9])0([0-9])", "$1");
        int filters = flat.split(";").length;
        if (filters > 8) {
            dueFull("as the pattern tells", text, filters);
        } else {
            dueText("as the pattern tells", text, flat);
        }
    }

    private static void readAllShortTexts() {
        String signs = "gysp0123467,;()x";
        for (int length = 0; length <= 3; length++) {
            for (int n = 0; n < 1 << 4 * length; n++) {
                StringBuilder text = new StringBuilder();
                for (int i = 0; i < length; i++) {
                    text.append(signs.charAt(n >> 4 * i & 15));
                }
                dueAsPattern(text.toString());
            }
        }
        String[] begun = {"2(", "3(g;", "2(3(g", "2(3(4(", "2(3(4(y1", "s1,", "f1", "w2,0", "g;", "4(2(g))", "2(g;r1)"};
        for (String start : begun) {
            for (int n = 0; n < 256; n++) {
                String end = "" + signs.charAt(n >> 4) + signs.charAt(n & 15);
                dueAsPattern(start + end);
                dueAsPattern(start + end + ")");
                dueAsPattern(start + end + "))");
            }
        }
    }

    // ---- promise 46

    private static void whyRefused() {
        for (int i : new int[] {-1, LEAST}) {
            Probe.refused("46 NONE: i below 0: " + i, x -> x.why(i, 0), NONE);
            Probe.refusedByNew("46 NONE: i below 0, ahead of NOT: " + i, x -> x.why(i, 0), NONE);
        }
        for (int what : new int[] {-1, 2, LEAST, MOST}) {
            Probe.refused("46 NONE: what " + what, x -> x.why(0, what), NONE);
            Probe.refused("46 NONE: what, ahead of NOT: " + what, x -> x.why(99, what), NONE);
        }
        for (int i : new int[] {3, 4, MOST}) {
            Probe.refused("46 NOT: there is no such: " + i, x -> x.why(i, 0), NOT);
            Probe.refused("46 NOT: there is no such: " + i, x -> x.why(i, 1), NOT);
        }
    }

    private static void whyNoneAtFirst() {
        Probe.refusedByNew("46 none at first", x -> x.why(0, 0), NOT);
        FilterPile x = new FilterPile();
        Due.read(x, "g;2(y1)");
        Due.dueWhy("46 none by a TEXT", x);
        x.sort(0);
        x.degree(3, 0);
        Due.dueWhy("46 none by what is not OVER", x);
    }

    private static void whyOpenGroups() {
        dueFault("no GROUP is open", "x", 0);
        dueFault("none is open at its figure", "2x", 1);
        dueFault("one", "2(x", 2, 1);
        dueFault("one of two", "2(3(g);x", 7, 1);
        dueFault("the other of two", "2(g);3(x", 7, 6);
        dueFault("two", "g;2(g;3(x", 8, 3, 7);
        dueFault("three, the outermost first", "y1;2(r1;3(p1;4(x", 15, 4, 9, 14);
        dueFault("three, far behind", "g;".repeat(26) + "2(3(4(g;", 60, 53, 55, 57);
    }

    private static void whyHowManyThereWouldBe() {
        dueFull("one too many", "3(3(g))", 9);
        dueFull("by three GROUPS", "4(4(4(g)))", 64);
        dueFull("the most that 60 bytes tell", "4(4(4(" + "g;".repeat(25) + "g)))", 1664);
        dueFull("not those of the GROUPS alone", "4(4(4(g)));g;2(g)", 67);
    }

    private static FilterPile over() {
        return Probe.bench(997, 1, 0, 0, "4(2(f1))");
    }

    private static void whyTheLatest() {
        FilterPile x = over();
        Due.read(x, "2(3(4(x");
        Due.dueWhy("46 FAULT", x, 2, 1, 2, 3, 2, 5, 1, 6);
        Due.read(x, "3(3(g))");
        Due.dueWhy("46 FULL behind FAULT", x, 3, 9);
        x.sort(8);
        Due.dueWhy("46 OVER behind FULL", x, 4, 5);
        Due.read(x, "2(x");
        Due.dueWhy("46 FAULT behind OVER", x, 2, 1, 1, 2);
        x.degree(8, 1);
        Due.dueWhy("46 OVER behind FAULT", x, 4, 5);
        Due.read(x, "3(3(g))");
        Due.dueWhy("46 FULL behind OVER", x, 3, 9);
        Due.read(x, "g");
        Due.dueWhy("46 a TEXT tells nothing", x, 3, 9);
        x.sort(0);
        x.degree(0, 0);
        x.sort(9);
        x.degree(9, 9);
        Due.dueWhy("46 what is not OVER tells nothing", x, 3, 9);
    }

    private static void whyOfOtherFulls() {
        FilterPile x = Probe.full();
        x.add(0, 0, 0);
        x.fetch(0, 1);
        Due.dueWhy("46 FULL of add() and fetch() is not told", x, 2, 1, 2, 3, 1, 4);
        for (int n = 0; n < 60; n++) {
            x.feed('g');
        }
        Due.due("46 FULL", x.feed('g'), FULL);
        Due.dueWhy("46 FULL of feed() is not told", x, 2, 1, 2, 3, 1, 4);
        x.clear();
        x.wipe();
        x.undo();
        Due.dueWhy("46 it stays behind clear(), wipe(), undo()", x, 2, 1, 2, 3, 1, 4);
    }

    // ---- promise 47

    private static void spelledRefused() {
        int length = "g;y7;s1,9;p2;w3,5;r6;f11".length();
        Due.due("47 i -1: how many", Probe.rich().spelled(-1), length);
        Due.due("47 the first", Probe.rich().spelled(0), 'g');
        Due.due("47 the last", Probe.rich().spelled(length - 1), '1');
        for (int i : new int[] {-2, length, length + 1, 47, LEAST, MOST}) {
            Probe.refused("47 NONE: none such: " + i, x -> x.spelled(i), NONE);
        }
    }

    private static void spelledWithoutFilters() {
        Due.due("47 how many without FILTERS", new FilterPile().spelled(-1), 0);
        Probe.refusedByNew("47 NONE: no byte without FILTERS", x -> x.spelled(0), NONE);
        FilterPile x = Probe.full();
        x.clear();
        Due.due("47 how many without FILTERS again", x.spelled(-1), 0);
        Due.due("47 NONE: no byte without FILTERS again", x.spelled(0), NONE);
    }

    private static void dueSpelled(String words, int kind, int angle, int figure, String want) {
        FilterPile x = new FilterPile();
        x.add(kind, angle, figure);
        Due.dueText("47 " + words, Due.spelled(x), want);
    }

    private static void spelledAsShortAsItCanBe() {
        dueSpelled("what the letter does not tell is left out", 0, 3, 16, "g");
        dueSpelled("what the letter does not tell is left out", 1, 3, 16, "y16");
        dueSpelled("what the letter does not tell is left out", 3, 3, 16, "p3");
        dueSpelled("what the letter does not tell is left out", 5, 3, 16, "r16");
        dueSpelled("what the letter does not tell is left out", 6, 3, 16, "f16");
        dueSpelled("a 0 that it tells stands", 1, 0, 0, "y0");
        dueSpelled("a 0 that it tells stands", 2, 0, 0, "s0,0");
        dueSpelled("a 0 that it tells stands", 3, 0, 0, "p0");
        dueSpelled("a 0 that it tells stands", 4, 0, 0, "w0,0");
        dueSpelled("a 0 that it tells stands", 5, 0, 0, "r0");
        dueSpelled("a 0 that it tells stands", 6, 0, 0, "f0");
        dueSpelled("numbers as short as they can be", 2, 3, 9, "s3,9");
        dueSpelled("numbers of two figures", 4, 3, 10, "w3,10");
        FilterPile x = new FilterPile();
        Due.read(x, "4(2(s3,16))");
        Due.due("47 the longest", x.spelled(-1), 47);
        Due.dueText("47 without GROUPS", Due.spelled(x), "s3,16" + ";s3,16".repeat(7));
    }
}
