/** CONDITIONS of NUMBERS, sentence by sentence: which side can be, and what's KNOWN there. */
public final class EdgesOfConditionsTest {
    private static final long LEAST = Asked.LEAST;
    private static final long GREATEST = Asked.GREATEST;

    public static void main(String[] args) {
        consts();
        constsOfAnyBit();
        common();
        endsThatGo();
        endsThatStay();
        signedBelow();
        signedNotAbove();
        signedOtherWay();
        signedLimits();
        asTheyWereBefore();
        unsignedLikewise();
        unsignedLesserCut();
        unsignedNothing();
        unsignedOtherWay();
        anyBit();
        withoutNumbers();
        sameRegister();
        sameRegisterWithoutNumbers();
        withImm();
        registersAlone();
        Asked.end();
    }

    private static long[] r(long... ends) {
        return ends;
    }

    /** x and y by their ends; on each side x.low, x.high, y.low, y.high, or null where it can't be. */
    private static void sides(int relation, long[] x, long[] y, long[] next, long[] jump) {
        ConditionsTest.hand(relation, x, y, next, jump);
    }

    /** Of one register with itself. */
    private static void self(int relation, long[] x, long[] next, long[] jump) {
        ConditionsTest.ask(relation, x, x, true, doubled(next), doubled(jump));
    }

    private static long[] doubled(long[] ends) {
        return ends == null ? null : r(ends[0], ends[1], ends[0], ends[1]);
    }

    /** CONSTS: the one side that is so, unchanged. */
    private static void sure(int relation, long x, long y, boolean so) {
        long[] both = r(x, x, y, y);
        sides(relation, r(x, x), r(y, y), so ? null : both, so ? both : null);
    }

    private static void consts() {
        Asked.says("CONSTS: the side that is so.");
        sure(65, 4, 4, true);
        sure(65, 4, 5, false);
        sure(66, 4, 4, false);
        sure(66, 4, 5, true);
        for (int sign = 67; sign <= 71; sign += 4) {
            sure(sign, 4, 5, true);
            sure(sign, 5, 5, false);
            sure(sign + 1, 5, 5, true);
            sure(sign + 1, 6, 5, false);
            sure(sign + 2, 6, 5, true);
            sure(sign + 2, 5, 5, false);
            sure(sign + 3, 5, 5, true);
            sure(sign + 3, 4, 5, false);
        }
        sure(67, -1, 0, false);
        sure(71, -1, 0, true);
        sure(69, LEAST, GREATEST, true);
        sure(73, LEAST, GREATEST, false);
    }

    private static void constsOfAnyBit() {
        Asked.says("CONSTS: the side that is so.");
        sure(75, 4, 4, true);
        sure(75, 4, 3, false);
        sure(75, 0, -1, false);
        sure(75, LEAST, -1, true);
    }

    private static void common() {
        Asked.says("on the side where it's = : both are what both RANGES have in common;");
        sides(65, r(0, 9), r(5, 20), r(0, 9, 5, 20), r(5, 9, 5, 9));
        sides(66, r(0, 9), r(5, 20), r(5, 9, 5, 9), r(0, 9, 5, 20));
        sides(65, r(0, 9), r(9, 20), r(0, 9, 9, 20), r(9, 9, 9, 9));
        sides(65, r(0, 9), r(3, 5), r(0, 9, 3, 5), r(3, 5, 3, 5));
        sides(65, r(0, 9), r(10, 20), r(0, 9, 10, 20), null);
        sides(66, r(0, 9), r(10, 20), null, r(0, 9, 10, 20));
        sides(65, r(LEAST, GREATEST), r(GREATEST, GREATEST), r(LEAST, GREATEST - 1, GREATEST, GREATEST),
            r(GREATEST, GREATEST, GREATEST, GREATEST));
        sides(65, r(LEAST, 0), r(0, GREATEST), r(LEAST, 0, 0, GREATEST), r(0, 0, 0, 0));
    }

    private static void endsThatGo() {
        Asked.says("<>: where one is a CONST and an end of the other one, that end goes;");
        sides(66, r(0, 9), r(0, 0), r(0, 0, 0, 0), r(1, 9, 0, 0));
        sides(66, r(0, 9), r(9, 9), r(9, 9, 9, 9), r(0, 8, 9, 9));
        sides(66, r(0, 0), r(0, 9), r(0, 0, 0, 0), r(0, 0, 1, 9));
        sides(66, r(9, 9), r(0, 9), r(9, 9, 9, 9), r(9, 9, 0, 8));
        sides(66, r(4, 5), r(4, 4), r(4, 4, 4, 4), r(5, 5, 4, 4));
        sides(66, r(4, 5), r(5, 5), r(5, 5, 5, 5), r(4, 4, 5, 5));
        sides(65, r(4, 5), r(5, 5), r(4, 4, 5, 5), r(5, 5, 5, 5));
        sides(66, r(LEAST, GREATEST), r(LEAST, LEAST), r(LEAST, LEAST, LEAST, LEAST), r(LEAST + 1, GREATEST, LEAST, LEAST));
        sides(66, r(LEAST, GREATEST), r(GREATEST, GREATEST), r(GREATEST, GREATEST, GREATEST, GREATEST),
            r(LEAST, GREATEST - 1, GREATEST, GREATEST));
    }

    private static void endsThatStay() {
        Asked.says("<>: where one is a CONST and an end of the other one, that end goes;");
        sides(66, r(0, 9), r(1, 1), r(1, 1, 1, 1), r(0, 9, 1, 1));
        sides(66, r(0, 9), r(8, 8), r(8, 8, 8, 8), r(0, 9, 8, 8));
        sides(66, r(0, 9), r(10, 10), null, r(0, 9, 10, 10));
        sides(66, r(0, 9), r(-1, -1), null, r(0, 9, -1, -1));
        sides(66, r(0, 9), r(0, 9), r(0, 9, 0, 9), r(0, 9, 0, 9));
        sides(66, r(0, 1), r(0, 9), r(0, 1, 0, 1), r(0, 1, 0, 9));
    }

    private static void signedBelow() {
        Asked.says("with sign, below or not above: the one's high is cut to the other's (less 1), the other's low to the one's (and 1)");
        sides(71, r(-3, 9), r(-5, 4), r(-3, 9, -5, 4), r(-3, 3, -2, 4));
        sides(71, r(0, 3), r(5, 9), null, r(0, 3, 5, 9));
        sides(71, r(0, 5), r(5, 9), r(5, 5, 5, 5), r(0, 5, 5, 9));
        sides(71, r(0, 6), r(5, 9), r(5, 6, 5, 6), r(0, 6, 5, 9));
        sides(71, r(5, 9), r(0, 6), r(5, 9, 0, 6), r(5, 5, 6, 6));
        sides(71, r(5, 9), r(0, 5), r(5, 9, 0, 5), null);
        sides(71, r(0, 9), r(5, 5), r(5, 9, 5, 5), r(0, 4, 5, 5));
        sides(71, r(5, 5), r(0, 9), r(5, 5, 0, 5), r(5, 5, 6, 9));
    }

    private static void signedNotAbove() {
        Asked.says("with sign, below or not above: the one's high is cut to the other's (less 1), the other's low to the one's (and 1)");
        sides(72, r(-3, 9), r(-5, 4), r(-3, 9, -5, 4), r(-3, 4, -3, 4));
        sides(72, r(-5, 9), r(-5, 4), r(-4, 9, -5, 4), r(-5, 4, -5, 4));
        sides(72, r(0, 5), r(5, 9), null, r(0, 5, 5, 9));
        sides(72, r(0, 6), r(5, 9), r(6, 6, 5, 5), r(0, 6, 5, 9));
        sides(72, r(5, 9), r(0, 5), r(5, 9, 0, 5), r(5, 5, 5, 5));
        sides(72, r(5, 9), r(0, 4), r(5, 9, 0, 4), null);
    }

    private static void signedOtherWay() {
        Asked.says("with sign, below or not above: the one's high is cut to the other's (less 1), the other's low to the one's (and 1)");
        sides(73, r(-5, 4), r(-3, 9), r(-5, 4, -3, 9), r(-2, 4, -3, 3));
        sides(73, r(0, 5), r(5, 9), r(0, 5, 5, 9), null);
        sides(73, r(0, 6), r(5, 9), r(0, 6, 5, 9), r(6, 6, 5, 5));
        sides(74, r(-5, 4), r(-3, 9), r(-5, 4, -3, 9), r(-3, 4, -3, 4));
        sides(74, r(-5, 4), r(-5, 9), r(-5, 4, -4, 9), r(-5, 4, -5, 4));
        sides(74, r(0, 5), r(5, 9), r(0, 5, 5, 9), r(5, 5, 5, 5));
        sides(74, r(0, 4), r(5, 9), r(0, 4, 5, 9), null);
        sides(74, r(5, 9), r(0, 5), null, r(5, 9, 0, 5));
    }

    private static void signedLimits() {
        Asked.says("with sign, below or not above: the one's high is cut to the other's (less 1), the other's low to the one's (and 1)");
        long[] all = r(LEAST, GREATEST);
        sides(71, all, r(LEAST, LEAST), r(LEAST, GREATEST, LEAST, LEAST), null);
        sides(71, r(GREATEST, GREATEST), all, r(GREATEST, GREATEST, LEAST, GREATEST), null);
        sides(73, all, r(GREATEST, GREATEST), r(LEAST, GREATEST, GREATEST, GREATEST), null);
        sides(73, r(LEAST, LEAST), all, r(LEAST, LEAST, LEAST, GREATEST), null);
        sides(72, all, r(LEAST, LEAST), r(LEAST + 1, GREATEST, LEAST, LEAST), r(LEAST, LEAST, LEAST, LEAST));
        sides(74, all, r(GREATEST, GREATEST), r(LEAST, GREATEST - 1, GREATEST, GREATEST),
            r(GREATEST, GREATEST, GREATEST, GREATEST));
        sides(71, all, r(GREATEST, GREATEST), r(GREATEST, GREATEST, GREATEST, GREATEST),
            r(LEAST, GREATEST - 1, GREATEST, GREATEST));
        sides(71, all, all, r(LEAST, GREATEST, LEAST, GREATEST), r(LEAST, GREATEST - 1, LEAST + 1, GREATEST));
    }

    private static void asTheyWereBefore() {
        Asked.says("as these were before;");
        // Were x's high cut first and y's low cut to that, y would be 4 .. 9.
        sides(71, r(0, 9), r(0, 9), r(0, 9, 0, 9), r(0, 8, 1, 9));
        sides(72, r(3, 20), r(-9, 10), r(3, 20, -9, 10), r(3, 10, 3, 10));
        sides(73, r(-9, 10), r(3, 20), r(-9, 10, 3, 20), r(4, 10, 3, 9));
    }

    private static void unsignedLikewise() {
        Asked.says("without sign: likewise, if both lows aren't below 0;");
        sides(67, r(0, 9), r(5, 7), r(5, 9, 5, 7), r(0, 6, 5, 7));
        sides(67, r(0, 9), r(0, 4), r(0, 9, 0, 4), r(0, 3, 1, 4));
        sides(68, r(0, 9), r(0, 4), r(1, 9, 0, 4), r(0, 4, 0, 4));
        sides(69, r(0, 4), r(0, 9), r(0, 4, 0, 9), r(1, 4, 0, 3));
        sides(70, r(0, 4), r(0, 9), r(0, 4, 1, 9), r(0, 4, 0, 4));
        sides(67, r(0, GREATEST), r(0, 0), r(0, GREATEST, 0, 0), null);
        sides(67, r(0, GREATEST), r(GREATEST, GREATEST), r(GREATEST, GREATEST, GREATEST, GREATEST),
            r(0, GREATEST - 1, GREATEST, GREATEST));
        sides(69, r(0, GREATEST), r(GREATEST, GREATEST), r(0, GREATEST, GREATEST, GREATEST), null);
        sides(68, r(0, 5), r(5, 9), null, r(0, 5, 5, 9));
    }

    private static void unsignedLesserCut() {
        Asked.says("else, if the greater one's low isn't below 0, the lesser one is cut to 0 .. its high (less 1 for <);");
        sides(67, r(-1, 9), r(5, 7), r(-1, 9, 5, 7), r(0, 6, 5, 7));
        sides(67, r(LEAST, GREATEST), r(0, 7), r(LEAST, GREATEST, 0, 7), r(0, 6, 0, 7));
        sides(68, r(-1, 9), r(5, 7), r(-1, 9, 5, 7), r(0, 7, 5, 7));
        sides(68, r(-1, 9), r(0, 0), r(-1, 9, 0, 0), r(0, 0, 0, 0));
        sides(67, r(-1, 9), r(1, 1), r(-1, 9, 1, 1), r(0, 0, 1, 1));
        sides(67, r(-1, 9), r(0, 0), r(-1, 9, 0, 0), null);
        sides(67, r(-9, -1), r(5, 7), r(-9, -1, 5, 7), null);
        sides(68, r(-9, 3), r(5, 7), r(-9, 3, 5, 7), r(0, 3, 5, 7));
        // The greater one is left as it is.
        sides(68, r(-1, 9), r(0, 20), r(-1, 9, 0, 20), r(0, 9, 0, 20));
    }

    private static void unsignedNothing() {
        Asked.says("else nothing. 75");
        sides(67, r(5, 7), r(-1, 9), r(5, 7, 0, 7), r(5, 7, -1, 9));
        sides(67, r(-4, 9), r(-5, 7), r(-4, 9, -5, 7), r(-4, 9, -5, 7));
        sides(68, r(-4, -3), r(-5, -4), r(-4, -3, -5, -4), r(-4, -3, -5, -4));
        sides(67, r(-1, -1), r(-5, 7), r(-1, -1, -5, 7), r(-1, -1, -5, 7));
        sides(70, r(-9, 9), r(-9, 9), r(-9, 9, -9, 9), r(-9, 9, -9, 9));
    }

    private static void unsignedOtherWay() {
        Asked.says("else, if the greater one's low isn't below 0, the lesser one is cut to 0 .. its high (less 1 for <);");
        sides(69, r(5, 7), r(-1, 9), r(5, 7, -1, 9), r(5, 7, 0, 6));
        sides(70, r(5, 7), r(-1, 9), r(5, 7, -1, 9), r(5, 7, 0, 7));
        sides(69, r(-1, 9), r(5, 7), r(0, 7, 5, 7), r(-1, 9, 5, 7));
        sides(70, r(-1, 9), r(5, 7), r(0, 6, 5, 7), r(-1, 9, 5, 7));
        sides(70, r(-1, 9), r(0, 0), null, r(-1, 9, 0, 0));
        sides(69, r(0, 0), r(-1, 9), r(0, 0, -1, 9), null);
    }

    private static void anyBit() {
        Asked.says("75: nothing.");
        sides(75, r(0, 9), r(0, 0), r(0, 9, 0, 0), r(0, 9, 0, 0));
        sides(75, r(4, 4), r(4, 5), r(4, 4, 4, 5), r(4, 4, 4, 5));
        sides(75, r(LEAST, GREATEST), r(-1, -1), r(LEAST, GREATEST, -1, -1), r(LEAST, GREATEST, -1, -1));
        self(75, r(1, 2), r(1, 2), r(1, 2));
    }

    private static void withoutNumbers() {
        Asked.says("A RANGE without numbers: that side can't be.");
        sides(65, r(0, 4), r(5, 9), r(0, 4, 5, 9), null);
        sides(65, r(0, 5), r(5, 9), r(0, 5, 5, 9), r(5, 5, 5, 5));
        sides(71, r(5, 9), r(0, 5), r(5, 9, 0, 5), null);
        sides(71, r(4, 9), r(0, 5), r(4, 9, 0, 5), r(4, 4, 5, 5));
        sides(67, r(5, 9), r(0, 5), r(5, 9, 0, 5), null);
        sides(67, r(4, 9), r(0, 5), r(4, 9, 0, 5), r(4, 4, 5, 5));
    }

    private static void sameRegister() {
        Asked.says("(where both are the same register, it has what's in both RANGES then)");
        self(65, r(0, 9), r(0, 9), r(0, 9));
        self(66, r(0, 9), r(0, 9), r(0, 9));
        self(71, r(0, 9), r(0, 9), r(1, 8));
        self(72, r(0, 9), r(1, 8), r(0, 9));
        self(73, r(0, 9), r(0, 9), r(1, 8));
        self(74, r(0, 9), r(1, 8), r(0, 9));
        self(67, r(0, 9), r(0, 9), r(1, 8));
        self(68, r(0, 9), r(1, 8), r(0, 9));
        self(67, r(-1, 9), r(-1, 9), r(-1, 9));
        self(71, r(0, 2), r(0, 2), r(1, 1));
        self(71, r(LEAST, GREATEST), r(LEAST, GREATEST), r(LEAST + 1, GREATEST - 1));
    }

    private static void sameRegisterWithoutNumbers() {
        Asked.says("A RANGE without numbers: that side can't be.");
        self(71, r(0, 1), r(0, 1), null);
        self(72, r(0, 1), null, r(0, 1));
        self(67, r(0, 1), r(0, 1), null);
        self(70, r(0, 1), null, r(0, 1));
        self(65, r(7, 7), null, r(7, 7));
        self(66, r(7, 7), r(7, 7), null);
        self(71, r(7, 7), r(7, 7), null);
        self(74, r(7, 7), null, r(7, 7));
        self(75, r(7, 7), null, r(7, 7));
        self(75, r(0, 0), r(0, 0), null);
    }

    private static void withImm() {
        Asked.says("CONDITIONS of NUMBERS");
        // imm -1 is the greatest without sign, and no number that isn't below 0 is that.
        FilterGuard guard = new Asked.Row().call(5).add(83, 0, 0, 1, -1).exit().exit().passes("< imm -1, without sign");
        Asked.due("next side can't be", 0, guard.known(2, 0, 3));
        Asked.due("other side: nothing is told", Asked.LOW_32, guard.known(3, 0, 1));
        FilterGuard above = new Asked.Row().call(5).add(85, 0, 0, 1, -1).exit().exit().passes("> imm -1, without sign");
        Asked.due("next side: nothing is told", Asked.LOW_32, above.known(2, 0, 1));
        Asked.due("other side can't be", 0, above.known(3, 0, 3));
        FilterGuard signed = new Asked.Row().call(5).add(87, 0, 0, 1, Integer.MAX_VALUE).exit().exit().passes("< imm");
        Asked.due("next side: low", 2147483647L, signed.known(2, 0, 0));
        Asked.due("other side: high", 2147483646L, signed.known(3, 0, 1));
    }

    private static void registersAlone() {
        Asked.says("CONDITIONS of NUMBERS");
        FilterGuard guard = new Asked.Row().call(5).copy(6, 0).add(103, 10, 0, -8, 0).add(83, 0, 0, 1, 9).exit()
            .add(99, 7, 10, -8, 0).exit().passes("what's told of a register");
        Asked.due("is told of it", 8, guard.known(5, 0, 1));
        Asked.due("but of no copy", Asked.LOW_32, guard.known(5, 6, 1));
        Asked.due("nor of what's HELD", Asked.LOW_32, guard.known(6, 7, 1));
    }
}
