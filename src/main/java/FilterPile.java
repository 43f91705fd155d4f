/**
 * A bench on which light goes through a pile of filters: what is left of it, by
 * which order, which filter does it. DOC.md tells every word that stands here in capitals.
 */
public final class FilterPile {
    public static final int NONE = -1, BAD = -2, STATE = -3, FULL = -4, NOT = -5, OVER = -9, MISSING = -11, PLACE = -13, BELOW = -14, KIND = -16;
    public static final long VOID = Long.MIN_VALUE;

    private static final int GLASS = 0, GREY = 1, SHEET = 2, POLAR = 3, PLATE = 4, ROTATOR = 5, FROST = 6;
    private static final int KINDS = 7, ANGLES = 4, FIGURES = 17;
    /** For each KIND the one that it is directly under; GLASS is under none. */
    private static final int[] KIND_ABOVE = {-1, 0, 1, 2, 0, 4, 1};
    /** The letters that tell KINDS in a TEXT, by KINDS. */
    private static final String LETTERS = "gyspwrf";

    private static final int PILE_MOST = 8, ORDER_MOST = 5, ORDERS_MOST = 120;
    private static final int LISTS = 3, LIST_MOST = 12, LIGHT_PARTS = 5, TOLD_MOST = 1000000, TOLD_E_MOST = 20;
    private static final int LAMP_MOST = 1000, CELLS = 8, DIM_PARTS = 16;
    private static final int RACKS = 3, PLACES = 4, TAKES_SHEETS = 0, TAKES_PLATES = 1, NOTHING = -1;
    private static final int TAPE_MOST = 60, GROUPS_MOST = 3, FAULT_BASE = -100;
    private static final int AT_FAULT = 1, IN_GROUP = 2, TOO_MANY = 3, TOO_LARGE = 4;
    /** The greatest number whose square is a long. */
    private static final long ROOT_MOST = 3037000499L;
    /** Euclid's way needs no more than some 92 steps for longs. */
    private static final int EUCLID_MOST = 200;
    private static final int FLOAT_LEAST_POWER = -126, FLOAT_BIAS = 127, FLOAT_DIGITS = 23;
    private static final int DOUBLE_BIAS = 1023, DOUBLE_DIGITS = 52;

    private final Bench bench = new Bench();
    private final Bench kept = new Bench();
    private boolean hasImage;
    private final long[][] lists = new long[LISTS][LIST_MOST];
    private final int[] listLengths = {MISSING, MISSING, MISSING};
    private final Reader reader = new Reader();
    private final Troubles troubles = new Troubles();
    private final Outcomes outcomes = new Outcomes();
    private final Orders orders = new Orders();
    private final StringBuilder spelling = new StringBuilder();
    // Rows that every call uses again, so that asking makes no objects.
    private final Light beam = new Light();
    private final Light aside = new Light();
    private final Light told = new Light();

    public FilterPile() {
    }

    // ---- the lamp, the pile

    public int lamp(int i, int q, int u, int v) {
        if (i < 0 || i > LAMP_MOST) {
            return BAD;
        }
        beam.become(i, q, u, v, 0);
        if (!beam.mayBe()) {
            return BAD;
        }
        bench.lamp.takeFrom(beam);
        return 1;
    }

    public int add(int kind, int angle, int figure) {
        if (!isKind(kind)) {
            return NONE;
        }
        if (!isAngle(angle) || !isFigure(figure)) {
            return BAD;
        }
        return bench.append(codeOf(kind, angle, figure));
    }

    public int change(int i, int what, int v) {
        if (!bench.has(i) || what < 0 || what > 2) {
            return NONE;
        }
        int numbers = what == 0 ? KINDS : what == 1 ? ANGLES : FIGURES;
        if (v < 0 || v >= numbers) {
            return BAD;
        }
        int weight = what == 0 ? codeOf(1, 0, 0) : what == 1 ? codeOf(0, 1, 0) : codeOf(0, 0, 1);
        int was = of(i, what);
        bench.pile[i] += weight * (v - was);
        return was;
    }

    public int turn(int i, int by) {
        if (!bench.has(i)) {
            return NONE;
        }
        int code = bench.pile[i];
        // A sum that wraps around is still right here: 4 divides 2 to the 32.
        int angle = Math.floorMod(angleOf(code) + by, ANGLES);
        bench.pile[i] = withAngle(code, angle);
        return angle;
    }

    public int move(int i, int j) {
        if (!bench.has(i) || !bench.has(j)) {
            return NONE;
        }
        if (i == j) {
            return 0;
        }
        int code = bench.pile[i];
        bench.takeOut(i);
        bench.putIn(j, code);
        return 1;
    }

    public int cut(int i) {
        if (!bench.has(i)) {
            return NONE;
        }
        bench.takeOut(i);
        return bench.size;
    }

    public int clear() {
        int were = bench.size;
        bench.size = 0;
        return were;
    }

    public int of(int i, int what) {
        if (!bench.has(i)) {
            return NONE;
        }
        int code = bench.pile[i];
        int kind = kindOf(code);
        boolean sheet = isSheetOrPolar(kind);
        switch (what) {
            case 0:
                return kind;
            case 1:
                return angleOf(code);
            case 2:
                return figureOf(code);
            case 3:
                return sheet ? alongOf(code) : NOT;
            case 4:
                return sheet ? acrossOf(code) : NOT;
            case 5:
                return isPlateOrRotator(kind) ? quartersOf(code) : NOT;
            case 6:
                return code;
            default:
                return NONE;
        }
    }

    public int isUnder(int i, int kind) {
        if (!bench.has(i) || !isKind(kind)) {
            return NONE;
        }
        int at = kindOf(bench.pile[i]);
        for (int steps = 0; steps < KINDS && isKind(at); steps++) {
            if (at == kind) {
                return 1;
            }
            at = KIND_ABOVE[at];
        }
        return 0;
    }

    // ---- light

    public long light(int k, int what) {
        if (!isBehind(k) || !isLightPart(what)) {
            return VOID;
        }
        shineBehind(k);
        return beam.part(what);
    }

    public long left(int k, int part) {
        if (!isBehind(k) || !isFractionPart(part)) {
            return VOID;
        }
        shineBehind(k);
        return leftInBeam(part);
    }

    public long degree(int k, int part) {
        if (!isBehind(k) || !isFractionPart(part)) {
            return VOID;
        }
        shineBehind(k);
        if (beam.isDark() || squaresAreOver()) {
            return VOID;
        }
        return fraction(beam.sumOfSquares(), beam.i * beam.i, part);
    }

    public int sort(int k) {
        if (!isBehind(k)) {
            return NONE;
        }
        shineBehind(k);
        if (beam.isDark()) {
            return 0;
        }
        if (beam.q == 0 && beam.u == 0 && beam.v == 0) {
            return 1;
        }
        if (squaresAreOver()) {
            return OVER;
        }
        if (beam.sumOfSquares() != beam.i * beam.i) {
            return 5;
        }
        if (beam.v == 0) {
            return 2;
        }
        return beam.q == 0 && beam.u == 0 ? 3 : 4;
    }

    public int order(int what) {
        if (what < 0 || what > 3) {
            return NONE;
        }
        if (bench.size > ORDER_MOST) {
            return STATE;
        }
        orders.meetAll(bench, outcomes);
        switch (what) {
            case 0:
                return outcomes.leastMark;
            case 1:
                return outcomes.mostMark;
            case 2:
                return outcomes.unlike;
            default:
                return outcomes.common();
        }
    }

    public long orderLight(int which, int what) {
        if (which < 0 || which > 1 || !isLightPart(what) || bench.size > ORDER_MOST) {
            return VOID;
        }
        orders.meetAll(bench, outcomes);
        return which == 0 ? outcomes.least.part(what) : outcomes.most.part(what);
    }

    public long matrix(int r, int c, int what) {
        if (r < 0 || r > 3 || c < 0 || c > 3 || what < 0 || what > 1) {
            return VOID;
        }
        beam.becomeUnit(c);
        bench.send(beam, 0, bench.size);
        // Alone in a LIGHT the number comes to its own LOWEST form.
        beam.become(beam.part(r), 0, 0, 0, beam.e);
        beam.lower();
        return what == 0 ? beam.i : beam.e;
    }

    public int trade(int i, int j) {
        if (!bench.has(i) || !bench.has(j)) {
            return NONE;
        }
        // FILTERS are linear: what holds for the four units holds for every LIGHT.
        for (int c = 0; c < 4; c++) {
            beam.becomeUnit(c);
            beam.pass(bench.pile[i]);
            beam.pass(bench.pile[j]);
            aside.becomeUnit(c);
            aside.pass(bench.pile[j]);
            aside.pass(bench.pile[i]);
            if (!beam.isLike(aside)) {
                return 0;
            }
        }
        return 1;
    }

    public int angle(int i, int what) {
        if (!bench.has(i) || what < 0 || what > 2) {
            return NONE;
        }
        shineBehind(i);
        aside.takeFrom(beam);
        outcomes.forget();
        for (int angle = 0; angle < ANGLES; angle++) {
            shineOn(i, withAngle(bench.pile[i], angle));
            outcomes.meet(beam, angle);
        }
        if (what == 0) {
            return outcomes.mostMark;
        }
        return what == 1 ? outcomes.leastMark : outcomes.unlike;
    }

    public long without(int i, int part) {
        if (!bench.has(i) || !isFractionPart(part)) {
            return VOID;
        }
        shineBehind(i);
        bench.send(beam, i + 1, bench.size);
        return leftInBeam(part);
    }

    public int darkens() {
        beam.takeFrom(bench.lamp);
        for (int k = 0; k <= bench.size; k++) {
            if (beam.isDark()) {
                return k;
            }
            bench.send(beam, k, k + 1);
        }
        return NOT;
    }

    public int crossed(int what) {
        if (what < 0 || what > 1) {
            return NONE;
        }
        int many = 0;
        int first = NOT;
        for (int i = 0; i < bench.size; i++) {
            for (int j = i + 1; j < bench.size; j++) {
                if (isCrossed(bench.pile[i], bench.pile[j])) {
                    first = many == 0 ? 10 * i + j : first;
                    many++;
                }
            }
        }
        return what == 0 ? many : first;
    }

    public int tally(int what) {
        if (what < 0 || what > 2) {
            return NONE;
        }
        int unlike = 0;
        int code = NOT;
        int most = 0;
        for (int i = 0; i < bench.size; i++) {
            int have = bench.howMany(bench.pile[i], bench.size);
            if (bench.howMany(bench.pile[i], i) == 0) {
                unlike++;
            }
            if (have > most) {
                most = have;
                code = bench.pile[i];
            }
        }
        if (what == 0) {
            return unlike;
        }
        return what == 1 ? code : most;
    }

    // ---- lists, told light

    public int list(int list, int n) {
        if (!isList(list)) {
            return NONE;
        }
        if (n > LIST_MOST) {
            return BAD;
        }
        if (n < -1) {
            return BELOW;
        }
        makeList(list, n < 0 ? MISSING : n);
        return 1;
    }

    public int put(int list, int i, long v) {
        if (!isList(list)) {
            return NONE;
        }
        if (isMissing(list)) {
            return MISSING;
        }
        if (!hasListPlace(list, i)) {
            return PLACE;
        }
        lists[list][i] = v;
        return 1;
    }

    public long get(int list, int i) {
        if (!isList(list) || !hasListPlace(list, i)) {
            return VOID;
        }
        return lists[list][i];
    }

    public int lay(int list, int k) {
        if (!isList(list) || !isBehind(k)) {
            return NONE;
        }
        shineBehind(k);
        makeList(list, LIGHT_PARTS);
        for (int what = 0; what < LIGHT_PARTS; what++) {
            lists[list][what] = beam.part(what);
        }
        return 1;
    }

    public int readings(int list) {
        if (!isList(list)) {
            return NONE;
        }
        shineBehind(bench.size);
        makeList(list, LIGHT_PARTS);
        lists[list][0] = beam.i + beam.q;
        lists[list][1] = beam.i + beam.u;
        lists[list][2] = beam.i - beam.q;
        lists[list][3] = beam.i + beam.v;
        lists[list][4] = beam.e + 1;
        return 1;
    }

    public long refound(int list, int what) {
        if (!isList(list) || what < 0 || what > LIGHT_PARTS || !refind(list)) {
            return VOID;
        }
        if (what == LIGHT_PARTS) {
            return told.mayBe() ? 1 : 0;
        }
        return told.part(what);
    }

    public long through(int list, int what) {
        if (!isList(list) || !isLightPart(what) || !tellLight(list)) {
            return VOID;
        }
        bench.send(told, 0, bench.size);
        return told.part(what);
    }

    public long before(int list, int what) {
        if (!isList(list) || !isLightPart(what) || !tellLight(list) || !bench.canGoBack()) {
            return VOID;
        }
        for (int i = bench.size - 1; i >= 0; i--) {
            told.pass(backwards(bench.pile[i]));
        }
        return told.part(what);
    }

    public int found(int list, int i, int what) {
        if (!isList(list) || !bench.has(i) || what < 0 || what > 2) {
            return NONE;
        }
        if (isMissing(list)) {
            return MISSING;
        }
        if (!tellLight(list)) {
            return BAD;
        }
        shineBehind(i);
        aside.takeFrom(beam);
        int many = 0;
        int kinds = 0;
        int first = NOT;
        for (int kind = 0; kind < KINDS; kind++) {
            for (int rest = 0; rest < ANGLES * FIGURES; rest++) {
                int code = codeOf(kind, rest / FIGURES, rest % FIGURES);
                shineOn(i, code);
                if (beam.isLike(told)) {
                    first = many == 0 ? code : first;
                    kinds |= 1 << kind;
                    many++;
                }
            }
        }
        if (what == 0) {
            return many;
        }
        return what == 1 ? first : kinds;
    }

    // ---- floats

    public long meter(int k, int what) {
        if (!isBehind(k) || what < 0 || what > 1) {
            return VOID;
        }
        double measured = measure(k);
        return what == 0 ? floatBits((float) measured) : doubleBits(measured);
    }

    public int expose(int cell) {
        if (!isCell(cell)) {
            return NONE;
        }
        bench.cells[cell] = bench.cells[cell] + (float) measure(bench.size);
        return floatBits(bench.cells[cell]);
    }

    public int dim(int cell, int n) {
        if (!isCell(cell)) {
            return NONE;
        }
        if (n < 0 || n > DIM_PARTS) {
            return BAD;
        }
        // Two steps, each rounded to a float: so the document counts it.
        float times = bench.cells[cell] * (float) n;
        bench.cells[cell] = times / (float) DIM_PARTS;
        return floatBits(bench.cells[cell]);
    }

    public int film(int cell, int what) {
        if (!isCell(cell)) {
            return NONE;
        }
        switch (what) {
            case 0:
                return floatBits(bench.cells[cell]);
            case 1:
                return (int) (bench.cells[cell] * 1000f);
            case 2:
                return bench.cells[cell] > (float) measure(bench.size) ? 1 : 0;
            default:
                return NONE;
        }
    }

    public long sumFilm(int what) {
        if (what < 0 || what > 1) {
            return VOID;
        }
        float narrow = 0f;
        double wide = 0d;
        for (int cell = 0; cell < CELLS; cell++) {
            narrow = narrow + bench.cells[cell];
            wide = wide + (double) bench.cells[cell];
        }
        return what == 0 ? floatBits(narrow) : doubleBits(wide);
    }

    // ---- racks

    public int store(int rack, int i, int k) {
        if (!isRack(rack) || !bench.has(k)) {
            return NONE;
        }
        if (!isRackPlace(i)) {
            return PLACE;
        }
        if (!takesKind(bench.takes[rack], kindOf(bench.pile[k]))) {
            return KIND;
        }
        bench.racks[rack][i] = bench.pile[k];
        return 1;
    }

    public int empty(int rack, int i) {
        int code = rackedCode(rack, i);
        if (code >= 0) {
            bench.racks[rack][i] = NOTHING;
        }
        return code;
    }

    public int fetch(int rack, int i) {
        int code = rackedCode(rack, i);
        return code < 0 ? code : bench.append(code);
    }

    public int rack(int rack, int i) {
        if (isRack(rack) && i == -1) {
            return bench.takes[rack];
        }
        return rackedCode(rack, i);
    }

    public int copy(int rack, int other) {
        if (!isRack(rack) || !isRack(other)) {
            return NONE;
        }
        bench.takes[other] = bench.takes[rack];
        for (int i = 0; i < PLACES; i++) {
            bench.racks[other][i] = bench.racks[rack][i];
        }
        return bench.racked(other);
    }

    // ---- texts

    public int feed(int letter) {
        if (letter < 1 || letter > 127) {
            return BAD;
        }
        if (reader.length >= TAPE_MOST) {
            return FULL;
        }
        reader.tape[reader.length] = letter;
        reader.length++;
        return reader.length;
    }

    public int wipe() {
        int had = reader.length;
        reader.length = 0;
        return had;
    }

    public int read() {
        boolean isText = reader.readsText();
        reader.length = 0;
        if (!isText) {
            troubles.forget();
            for (int group = 0; group < reader.open; group++) {
                troubles.note(IN_GROUP, reader.opens[group]);
            }
            troubles.note(AT_FAULT, reader.place);
            return FAULT_BASE - reader.place;
        }
        if (reader.filters > PILE_MOST) {
            troubles.forget();
            troubles.note(TOO_MANY, reader.filters);
            return FULL;
        }
        System.arraycopy(reader.codes, 0, bench.pile, 0, PILE_MOST);
        bench.size = reader.filters;
        return bench.size;
    }

    public int why(int i, int what) {
        if (i < 0 || what < 0 || what > 1) {
            return NONE;
        }
        if (i >= troubles.size) {
            return NOT;
        }
        return what == 0 ? troubles.sorts[i] : troubles.numbers[i];
    }

    public int spelled(int i) {
        spell();
        if (i == -1) {
            return spelling.length();
        }
        return i >= 0 && i < spelling.length() ? spelling.charAt(i) : NONE;
    }

    // ---- the image

    public int image() {
        kept.takeFrom(bench);
        hasImage = true;
        return bench.size;
    }

    public int undo() {
        if (!hasImage) {
            return STATE;
        }
        bench.takeFrom(kept);
        return bench.size;
    }

    public int count(int what) {
        switch (what) {
            case 0:
                return bench.size;
            case 1:
                return reader.length;
            case 2:
                return troubles.size;
            case 3:
                return bench.racked(0) + bench.racked(1) + bench.racked(2);
            case 4:
                return bench.litCells();
            default:
                return NONE;
        }
    }

    // ---- what numbers there are

    private static boolean isKind(int kind) {
        return kind >= 0 && kind < KINDS;
    }

    private static boolean isAngle(int angle) {
        return angle >= 0 && angle < ANGLES;
    }

    private static boolean isFigure(int figure) {
        return figure >= 0 && figure < FIGURES;
    }

    private static boolean isLightPart(int what) {
        return what >= 0 && what < LIGHT_PARTS;
    }

    private static boolean isFractionPart(int part) {
        return part == 0 || part == 1;
    }

    private static boolean isList(int list) {
        return list >= 0 && list < LISTS;
    }

    private static boolean isCell(int cell) {
        return cell >= 0 && cell < CELLS;
    }

    private static boolean isRack(int rack) {
        return rack >= 0 && rack < RACKS;
    }

    private static boolean isRackPlace(int i) {
        return i >= 0 && i < PLACES;
    }

    private boolean isBehind(int k) {
        return k >= 0 && k <= bench.size;
    }

    // ---- CODES

    private static int codeOf(int kind, int angle, int figure) {
        return 1000 * kind + 100 * angle + figure;
    }

    private static int kindOf(int code) {
        return code / 1000;
    }

    private static int angleOf(int code) {
        return code / 100 % 10;
    }

    private static int figureOf(int code) {
        return code % 100;
    }

    private static int withAngle(int code, int angle) {
        return codeOf(kindOf(code), angle, figureOf(code));
    }

    private static boolean isSheetOrPolar(int kind) {
        return kind == SHEET || kind == POLAR;
    }

    private static boolean isPlateOrRotator(int kind) {
        return kind == PLATE || kind == ROTATOR;
    }

    private static int alongOf(int code) {
        return kindOf(code) == POLAR ? 4 : figureOf(code) / 4;
    }

    private static int acrossOf(int code) {
        return kindOf(code) == POLAR ? 0 : figureOf(code) % 4;
    }

    private static int quartersOf(int code) {
        return figureOf(code) % 4;
    }

    /** The CODE of a PLATE or ROTATOR that undoes one: as many quarters as are left to a whole turn. */
    private static int backwards(int code) {
        return codeOf(kindOf(code), angleOf(code), 4 - quartersOf(code));
    }

    private static boolean tellsAngle(int kind) {
        return kind == SHEET || kind == POLAR || kind == PLATE;
    }

    private static boolean tellsFigure(int kind) {
        return kind != GLASS && kind != POLAR;
    }

    private static boolean takesKind(int takes, int kind) {
        if (takes == TAKES_SHEETS) {
            return isSheetOrPolar(kind);
        }
        return takes != TAKES_PLATES || isPlateOrRotator(kind);
    }

    // ---- light that goes through

    /** Makes beam the LIGHT BEHIND k. */
    private void shineBehind(int k) {
        beam.takeFrom(bench.lamp);
        bench.send(beam, 0, k);
    }

    /** Makes beam what comes out behind all, if aside falls on a FILTER of this CODE in place of FILTER i. */
    private void shineOn(int i, int code) {
        beam.takeFrom(aside);
        beam.pass(code);
        bench.send(beam, i + 1, bench.size);
    }

    private boolean isCrossed(int first, int second) {
        beam.becomeUnit(0);
        beam.pass(first);
        beam.pass(second);
        return beam.isDark();
    }

    private long leftInBeam(int part) {
        if (bench.lamp.i == 0) {
            return VOID;
        }
        return fraction(beam.i, bench.lamp.i << beam.e, part);
    }

    /** Divides beam's four by what they share; notes it as a TROUBLE, if a square or a sum of squares is no long. */
    private boolean squaresAreOver() {
        beam.shrink();
        int part = beam.firstOver();
        if (part < 0) {
            return false;
        }
        troubles.forget();
        troubles.note(TOO_LARGE, part);
        return true;
    }

    private static long fraction(long above, long below, int part) {
        long common = commonDivisor(above, below);
        if (common < 1) {
            return VOID;
        }
        return part == 0 ? above / common : below / common;
    }

    private static long commonDivisor(long a, long b) {
        long greater = Math.abs(a);
        long rest = Math.abs(b);
        for (int steps = 0; steps < EUCLID_MOST && rest != 0; steps++) {
            long next = greater % rest;
            greater = rest;
            rest = next;
        }
        return greater;
    }

    // ---- LISTS

    private boolean isMissing(int list) {
        return listLengths[list] == MISSING;
    }

    private boolean hasListPlace(int list, int i) {
        return i >= 0 && i < listLengths[list];
    }

    private void makeList(int list, int length) {
        listLengths[list] = length;
        for (int i = 0; i < LIST_MOST; i++) {
            lists[list][i] = 0;
        }
    }

    /** Makes told the LIGHT that a LIST tells; false, if it tells none. */
    private boolean tellLight(int list) {
        if (listLengths[list] < LIGHT_PARTS) {
            return false;
        }
        long[] row = lists[list];
        if (!isFrom(row[0], 0, TOLD_MOST) || !isFrom(row[4], 0, TOLD_E_MOST)) {
            return false;
        }
        told.become(row[0], row[1], row[2], row[3], (int) row[4]);
        told.lower();
        return told.mayBe();
    }

    /** Makes told the LIGHT of a LIST's READINGS; false, if they are none. */
    private boolean refind(int list) {
        if (listLengths[list] < LIGHT_PARTS) {
            return false;
        }
        long[] row = lists[list];
        for (int i = 0; i < 4; i++) {
            if (!isFrom(row[i], 0, TOLD_MOST)) {
                return false;
            }
        }
        if (!isFrom(row[4], 1, TOLD_E_MOST)) {
            return false;
        }
        long whole = row[0] + row[2];
        told.become(whole, row[0] - row[2], 2 * row[1] - whole, 2 * row[3] - whole, (int) row[4]);
        told.lower();
        return true;
    }

    private static boolean isFrom(long value, long least, long most) {
        return value >= least && value <= most;
    }

    // ---- floats as bits

    private double measure(int k) {
        shineBehind(k);
        return (double) beam.i / (double) (1L << beam.e);
    }

    /** The bits of a double that is 0, or above 0 and no less than the least float. */
    private static long doubleBits(double value) {
        if (value <= 0d) {
            return 0;
        }
        double rest = value;
        int power = 0;
        for (; rest >= 2d && power < DOUBLE_BIAS; power++) {
            rest = rest / 2d;
        }
        for (; rest < 1d && power > -DOUBLE_BIAS; power--) {
            rest = rest * 2d;
        }
        long digits = (long) ((rest - 1d) * (double) (1L << DOUBLE_DIGITS));
        return ((long) (power + DOUBLE_BIAS) << DOUBLE_DIGITS) + digits;
    }

    private static int floatBits(float value) {
        long wide = doubleBits((double) value);
        if (wide == 0) {
            return 0;
        }
        int power = (int) (wide >> DOUBLE_DIGITS) - DOUBLE_BIAS;
        long digits = wide & (1L << DOUBLE_DIGITS) - 1;
        int spare = DOUBLE_DIGITS - FLOAT_DIGITS;
        if (power >= FLOAT_LEAST_POWER) {
            return ((power + FLOAT_BIAS) << FLOAT_DIGITS) + (int) (digits >> spare);
        }
        // Below the least power a float writes its leading 1 too, further down the smaller it is.
        return (int) ((digits | 1L << DOUBLE_DIGITS) >> (spare + FLOAT_LEAST_POWER - power));
    }

    // ---- RACKS, texts

    /** The CODE in a place of a RACK, or the answer why there is none. */
    private int rackedCode(int rack, int i) {
        if (!isRack(rack)) {
            return NONE;
        }
        if (!isRackPlace(i)) {
            return PLACE;
        }
        int code = bench.racks[rack][i];
        return code == NOTHING ? NOT : code;
    }

    private void spell() {
        spelling.setLength(0);
        for (int i = 0; i < bench.size; i++) {
            if (i > 0) {
                spelling.append(';');
            }
            spellFilter(bench.pile[i]);
        }
    }

    private void spellFilter(int code) {
        int kind = kindOf(code);
        if (!isKind(kind)) {
            return;
        }
        spelling.append(LETTERS.charAt(kind));
        if (tellsAngle(kind)) {
            spelling.append(angleOf(code));
        }
        if (tellsAngle(kind) && tellsFigure(kind)) {
            spelling.append(',');
        }
        if (tellsFigure(kind)) {
            spelling.append(figureOf(code));
        }
    }

    /** A LIGHT that can be written anew, so that a call needs no new one. */
    private static final class Light {
        long i;
        long q;
        long u;
        long v;
        int e;

        void become(long newI, long newQ, long newU, long newV, int newE) {
            i = newI;
            q = newQ;
            u = newU;
            v = newV;
            e = newE;
        }

        void becomeUnit(int c) {
            become(c == 0 ? 1 : 0, c == 1 ? 1 : 0, c == 2 ? 1 : 0, c == 3 ? 1 : 0, 0);
        }

        void takeFrom(Light other) {
            become(other.i, other.q, other.u, other.v, other.e);
        }

        long part(int what) {
            switch (what) {
                case 0:
                    return i;
                case 1:
                    return q;
                case 2:
                    return u;
                case 3:
                    return v;
                default:
                    return e;
            }
        }

        boolean isDark() {
            return i == 0;
        }

        boolean isLike(Light other) {
            return i == other.i && q == other.q && u == other.u && v == other.v && e == other.e;
        }

        /** For an I whose square is a long three times over; no part is squared before it is known to be no more. */
        boolean mayBe() {
            return i >= 0 && isWithin(q) && isWithin(u) && isWithin(v) && sumOfSquares() <= i * i;
        }

        private boolean isWithin(long part) {
            return part >= -i && part <= i;
        }

        long sumOfSquares() {
            return q * q + u * u + v * v;
        }

        /** Above 0, 0 or below 0 as this I is more, as much or less, each over its own 2 to the E. */
        int compareI(Light other) {
            int top = Math.max(e, other.e);
            return Long.compare(i << (top - e), other.i << (top - other.e));
        }

        void lower() {
            while (e > 0 && ((i | q | u | v) & 1) == 0) {
                i >>= 1;
                q >>= 1;
                u >>= 1;
                v >>= 1;
                e--;
            }
        }

        void shrink() {
            long common = commonDivisor(commonDivisor(i, q), commonDivisor(u, v));
            if (common > 1) {
                become(i / common, q / common, u / common, v / common, e);
            }
        }

        /** The number of the first part of DEGREE that is no long (as WHY counts them), -1 if all are. */
        int firstOver() {
            if (isOver(q)) {
                return 0;
            }
            if (isOver(u)) {
                return 1;
            }
            if (isOver(v)) {
                return 2;
            }
            if (u * u > Long.MAX_VALUE - q * q) {
                return 3;
            }
            if (v * v > Long.MAX_VALUE - q * q - u * u) {
                return 4;
            }
            return isOver(i) ? 5 : -1;
        }

        private static boolean isOver(long part) {
            return part > ROOT_MOST || part < -ROOT_MOST;
        }

        /** Becomes what comes out of a FILTER of this CODE. */
        void pass(int code) {
            switch (kindOf(code)) {
                case GREY:
                    passGrey(figureOf(code), figureOf(code));
                    break;
                case SHEET:
                case POLAR:
                    passSheet(angleOf(code), alongOf(code), acrossOf(code));
                    break;
                case PLATE:
                case ROTATOR:
                    for (int quarter = 0; quarter < quartersOf(code); quarter++) {
                        turnQuarter(kindOf(code) == ROTATOR ? ANGLES : angleOf(code));
                    }
                    break;
                case FROST:
                    passGrey(16, figureOf(code));
                    break;
                default:
                    break;
            }
            lower();
        }

        private void passGrey(int forI, int forOthers) {
            become(forI * i, forOthers * q, forOthers * u, forOthers * v, e + 4);
        }

        private void passSheet(int angle, int along, int across) {
            long sum = along * along + across * across;
            long difference = along * along - across * across;
            long product = 2 * along * across;
            boolean onQ = angle % 2 == 0;
            long sign = angle < 2 ? 1 : -1;
            long p = sign * (onQ ? q : u);
            long newP = sign * (difference * i + sum * p);
            become(sum * i + difference * p, onQ ? newP : product * q, onQ ? product * u : newP, product * v, e + 5);
        }

        /** A PLATE's quarter turn by its ANGLE; by one more than the last ANGLE it is a ROTATOR's. */
        private void turnQuarter(int angle) {
            switch (angle) {
                case 0:
                    become(i, q, v, -u, e);
                    break;
                case 1:
                    become(i, -v, u, q, e);
                    break;
                case 2:
                    become(i, q, -v, u, e);
                    break;
                case 3:
                    become(i, v, u, -q, e);
                    break;
                default:
                    become(i, -u, q, v, e);
                    break;
            }
        }
    }

    /** All that THE IMAGE holds, so that it is one of these too. FILTERS are their CODES: a copy shares nothing. */
    private static final class Bench {
        final Light lamp = new Light();
        final int[] pile = new int[PILE_MOST];
        int size;
        final float[] cells = new float[CELLS];
        final int[][] racks = new int[RACKS][PLACES];
        final int[] takes = {0, 1, 2};

        Bench() {
            lamp.i = 16;
            for (int rack = 0; rack < RACKS; rack++) {
                for (int i = 0; i < PLACES; i++) {
                    racks[rack][i] = NOTHING;
                }
            }
        }

        void takeFrom(Bench other) {
            lamp.takeFrom(other.lamp);
            size = other.size;
            System.arraycopy(other.pile, 0, pile, 0, PILE_MOST);
            System.arraycopy(other.cells, 0, cells, 0, CELLS);
            System.arraycopy(other.takes, 0, takes, 0, RACKS);
            for (int rack = 0; rack < RACKS; rack++) {
                System.arraycopy(other.racks[rack], 0, racks[rack], 0, PLACES);
            }
        }

        boolean has(int i) {
            return i >= 0 && i < size;
        }

        /** The number of the FILTER that comes behind all, or FULL. */
        int append(int code) {
            if (size >= PILE_MOST) {
                return FULL;
            }
            pile[size] = code;
            size++;
            return size - 1;
        }

        void takeOut(int i) {
            for (int n = i; n + 1 < size; n++) {
                pile[n] = pile[n + 1];
            }
            size--;
        }

        void putIn(int i, int code) {
            if (size >= PILE_MOST) {
                return;
            }
            for (int n = size; n > i; n--) {
                pile[n] = pile[n - 1];
            }
            pile[i] = code;
            size++;
        }

        /** Sends a LIGHT through FILTERS from .. to less 1, those that there are. */
        void send(Light light, int from, int to) {
            for (int i = from; i < to && i < size; i++) {
                light.pass(pile[i]);
            }
        }

        boolean canGoBack() {
            for (int i = 0; i < size; i++) {
                int kind = kindOf(pile[i]);
                if (kind != GLASS && !isPlateOrRotator(kind)) {
                    return false;
                }
            }
            return true;
        }

        /** How many of the first FILTERS have a CODE. */
        int howMany(int code, int first) {
            int many = 0;
            for (int i = 0; i < first && i < size; i++) {
                if (pile[i] == code) {
                    many++;
                }
            }
            return many;
        }

        int racked(int rack) {
            int many = 0;
            for (int i = 0; i < PLACES; i++) {
                if (racks[rack][i] != NOTHING) {
                    many++;
                }
            }
            return many;
        }

        int litCells() {
            int many = 0;
            for (int cell = 0; cell < CELLS; cell++) {
                if (cells[cell] != 0f) {
                    many++;
                }
            }
            return many;
        }
    }

    /** LIGHTS that come out by several ways, each way with its mark: the least, the most, how many unlike. */
    private static final class Outcomes {
        final Light least = new Light();
        final Light most = new Light();
        int leastMark;
        int mostMark;
        int unlike;
        private final long[] seen = new long[ORDERS_MOST * LIGHT_PARTS];
        private final int[] times = new int[ORDERS_MOST];

        void forget() {
            unlike = 0;
        }

        void meet(Light light, int mark) {
            boolean first = unlike == 0;
            if (first || light.compareI(least) < 0) {
                least.takeFrom(light);
                leastMark = mark;
            }
            if (first || light.compareI(most) > 0) {
                most.takeFrom(light);
                mostMark = mark;
            }
            remember(light);
        }

        private void remember(Light light) {
            for (int n = 0; n < unlike; n++) {
                if (isSeen(n, light)) {
                    times[n]++;
                    return;
                }
            }
            if (unlike >= ORDERS_MOST) {
                return;
            }
            for (int what = 0; what < LIGHT_PARTS; what++) {
                seen[unlike * LIGHT_PARTS + what] = light.part(what);
            }
            times[unlike] = 1;
            unlike++;
        }

        private boolean isSeen(int n, Light light) {
            for (int what = 0; what < LIGHT_PARTS; what++) {
                if (seen[n * LIGHT_PARTS + what] != light.part(what)) {
                    return false;
                }
            }
            return true;
        }

        int common() {
            int greatest = 0;
            for (int n = 0; n < unlike; n++) {
                greatest = Math.max(greatest, times[n]);
            }
            return greatest;
        }
    }

    /** Goes through all ORDERS of a pile; what two of them begin with alike is passed only once. */
    private static final class Orders {
        private final Light[] behind = new Light[ORDER_MOST + 1];

        Orders() {
            for (int k = 0; k <= ORDER_MOST; k++) {
                behind[k] = new Light();
            }
        }

        void meetAll(Bench bench, Outcomes outcomes) {
            outcomes.forget();
            behind[0].takeFrom(bench.lamp);
            goOn(bench, outcomes, 0, 0, 0);
        }

        private void goOn(Bench bench, Outcomes outcomes, int depth, int used, int digits) {
            if (depth >= bench.size || depth >= ORDER_MOST) {
                outcomes.meet(behind[depth], digits);
                return;
            }
            for (int i = 0; i < bench.size; i++) {
                if ((used & 1 << i) == 0) {
                    behind[depth + 1].takeFrom(behind[depth]);
                    behind[depth + 1].pass(bench.pile[i]);
                    goOn(bench, outcomes, depth + 1, used | 1 << i, 10 * digits + i + 1);
                }
            }
        }
    }

    /** WHY: TROUBLES, the outermost first. */
    private static final class Troubles {
        final int[] sorts = new int[GROUPS_MOST + 1];
        final int[] numbers = new int[GROUPS_MOST + 1];
        int size;

        void forget() {
            size = 0;
        }

        void note(int sort, int number) {
            if (size < sorts.length) {
                sorts[size] = sort;
                numbers[size] = number;
                size++;
            }
        }
    }

    /** Reads THE TAPE. Where it meets a byte with which no TEXT goes on, it stops: place is the FAULT then. */
    private static final class Reader {
        final int[] tape = new int[TAPE_MOST];
        int length;
        int place;
        final int[] opens = new int[GROUPS_MOST];
        int open;
        /** The first FILTERS; filters counts them all, for more of them are FULL in any case. */
        final int[] codes = new int[PILE_MOST];
        int filters;

        boolean readsText() {
            place = 0;
            open = 0;
            filters = 0;
            return readsItems() && place == length;
        }

        /** The byte at place; 0, which is no byte of THE TAPE, behind its end. */
        private int next() {
            return place < length && place < TAPE_MOST ? tape[place] : 0;
        }

        private boolean takes(char sign) {
            if (next() != sign) {
                return false;
            }
            place++;
            return true;
        }

        /** The next byte as a figure no more than most, or -1: then it is not taken. */
        private int takeFigure(int most) {
            int figure = next() - '0';
            if (figure < 0 || figure > most) {
                return -1;
            }
            place++;
            return figure;
        }

        private boolean readsItems() {
            for (int items = 0; items < TAPE_MOST; items++) {
                if (!readsItem()) {
                    return false;
                }
                if (!takes(';')) {
                    return true;
                }
            }
            return false;
        }

        private boolean readsItem() {
            int kind = next() == 0 ? -1 : LETTERS.indexOf((char) next());
            if (kind >= 0) {
                place++;
                return readsFilter(kind);
            }
            return next() >= '2' && next() <= '4' && open < GROUPS_MOST && readsGroup();
        }

        private boolean readsGroup() {
            int times = takeFigure(4);
            if (next() != '(') {
                return false;
            }
            opens[open] = place;
            open++;
            place++;
            int from = filters;
            if (!readsItems() || !takes(')')) {
                return false;
            }
            open--;
            repeat(from, (filters - from) * (times - 1));
            return true;
        }

        /** Keeps so many FILTERS more, each as the next one from here on: they come round again by themselves. */
        private void repeat(int from, int more) {
            for (int n = from; n < from + more; n++) {
                keep(n < PILE_MOST ? codes[n] : 0);
            }
        }

        private void keep(int code) {
            if (filters < PILE_MOST) {
                codes[filters] = code;
            }
            filters++;
        }

        private boolean readsFilter(int kind) {
            int angle = 0;
            int figure = 0;
            if (tellsAngle(kind)) {
                angle = takeFigure(ANGLES - 1);
                if (angle < 0) {
                    return false;
                }
            }
            if (tellsAngle(kind) && tellsFigure(kind) && !takes(',')) {
                return false;
            }
            if (tellsFigure(kind)) {
                figure = takeNumber();
                if (figure < 0) {
                    return false;
                }
            }
            keep(codeOf(kind, angle, figure));
            return true;
        }

        /** One or two figures, or -1; of a number that is too great the last figure is not taken. */
        private int takeNumber() {
            int first = takeFigure(9);
            if (first < 0) {
                return -1;
            }
            int second = next() - '0';
            if (second < 0 || second > 9) {
                return first;
            }
            if (!isFigure(10 * first + second)) {
                return -1;
            }
            place++;
            return 10 * first + second;
        }
    }
}
