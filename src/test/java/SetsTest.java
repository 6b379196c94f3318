/** Promises 16 to 18: the closed sets and their nets. */
public final class SetsTest {
    private static final int NONE = LessonWeave.NONE;
    private static final int LOW = Integer.MIN_VALUE;
    private static final int HIGH = Integer.MAX_VALUE;

    public static void main(String[] args) {
        promise16Worthwhile();
        promise16FewestAims();
        promise16NeedsCarryOthers();
        promise16And17Refused();
        promise17BestNet();
        promise17TwelveAims();
        promise18ClosedSets();
        promise18TwelveAims();
        Checks.end();
    }

    private static void best(String what, LessonWeave weave, int price, int set, int net) {
        Checks.equal(what + ", worthwhile(" + price + ")", weave.worthwhile(price), set);
        Checks.equal(what + ", bestNet(" + price + ")", weave.bestNet(price), net);
    }

    private static void promise16Worthwhile() {
        LessonWeave weave = new LessonWeave();
        weave.aim(1, 0, 5, NONE);
        weave.aim(2, 0, 30, NONE);
        weave.aim(3, 0, 20, NONE);
        best("16: all", weave, 0, 0b111, 55);
        best("16: all", weave, 4, 0b111, 1 + 22 + 8);
        best("16: without the aim 0", weave, 5, 0b110, 20 + 5);
        best("16: without the aims 0 and 2", weave, 7, 0b010, 16);
        best("16: one", weave, 14, 0b010, 2);
        best("16: none", weave, 15, 0, 0);
        best("16: none", weave, 99, 0, 0);
    }

    private static void promise16FewestAims() {
        LessonWeave weave = new LessonWeave();
        weave.aim(1, 0, 10, NONE);
        weave.aim(1, 0, 12, NONE);
        weave.aim(1, 0, 8, NONE);
        best("16: a net of 0 is left out", weave, 10, 0b010, 2);
        weave.need(1, 2);
        best("16: the two carry each other, to 0", weave, 10, 0, 0);
        best("16: one step cheaper", weave, 9, 0b111, 1 + 3 - 1);
        weave.free(1, 2);
        weave.need(0, 1);
        best("16: a need of a net of 0", weave, 10, 0b010, 2);
        best("16: a need with a net", weave, 9, 0b011, 4);
    }

    private static void promise16NeedsCarryOthers() {
        LessonWeave weave = new LessonWeave();
        weave.aim(5, 0, 1, NONE);
        weave.aim(1, 0, 30, NONE);
        weave.aim(1, 0, 30, NONE);
        weave.need(1, 0);
        best("16: one alone does not carry it", weave, 8, 0b100, 22);
        weave.need(2, 0);
        best("16: two carry it", weave, 8, 0b111, 22 + 22 - 39);
        best("16: two do not carry it any more", weave, 9, 0, 0);
        weave.free(1, 0);
        weave.need(1, 2);
        best("16: by way of another", weave, 8, 0b111, 5);
    }

    private static void promise16And17Refused() {
        LessonWeave weave = new LessonWeave();
        weave.aim(1, 0, 99, NONE);
        for (int no : new int[] {-1, 100, LOW, HIGH}) {
            Checks.badArgument("16: worthwhile(" + no + ")", () -> weave.worthwhile(no));
            Checks.badArgument("17: bestNet(" + no + ")", () -> weave.bestNet(no));
        }
        best("16: the least price", weave, 0, 1, 99);
        best("16: the greatest price but one", weave, 98, 1, 1);
        best("16: the greatest price", weave, 99, 0, 0);
    }

    private static void promise17BestNet() {
        LessonWeave weave = new LessonWeave();
        weave.aim(5, 0, 99, NONE);
        weave.aim(1, 0, 1, NONE);
        Checks.equal("17: bestNet(0)", weave.bestNet(0), 100);
        Checks.equal("17: bestNet(19)", weave.bestNet(19), 4);
        weave.need(0, 1);
        Checks.equal("17: bestNet(16)", weave.bestNet(16), 19 - 15);
        Checks.equal("17: bestNet(17)", weave.bestNet(17), 0);
        Checks.equal("17: bestNet(99)", weave.bestNet(99), 0);
    }

    private static void promise17TwelveAims() {
        LessonWeave weave = new LessonWeave();
        for (int k = 0; k < 12; k++) {
            weave.aim(5, 0, 99, NONE);
        }
        best("17: all", weave, 0, 0xFFF, 12 * 99);
        best("17: all", weave, 19, 0xFFF, 12 * 4);
        best("17: none", weave, 20, 0, 0);
        for (int k = 0; k < 11; k++) {
            weave.need(k, k + 1);
        }
        best("17: all, along a chain", weave, 19, 0xFFF, 12 * 4);
    }

    private static void promise18ClosedSets() {
        LessonWeave weave = new LessonWeave();
        Checks.equal("18: the empty one", weave.closedSets(), 1);
        weave.aim(1, 0, 1, NONE);
        Checks.equal("18: one aim", weave.closedSets(), 2);
        weave.aim(1, 0, 1, NONE);
        weave.aim(1, 0, 1, NONE);
        Checks.equal("18: three aims", weave.closedSets(), 8);
        weave.need(0, 1);
        Checks.equal("18: a need", weave.closedSets(), 6);
        weave.need(0, 2);
        Checks.equal("18: two needs of one", weave.closedSets(), 5);
        weave.need(1, 2);
        Checks.equal("18: a chain", weave.closedSets(), 4);
        weave.free(0, 2);
        Checks.equal("18: a chain still", weave.closedSets(), 4);
        weave.free(0, 1);
        Checks.equal("18: a need again", weave.closedSets(), 6);
    }

    private static void promise18TwelveAims() {
        LessonWeave weave = new LessonWeave();
        for (int k = 0; k < 12; k++) {
            weave.aim(1, 0, 1, NONE);
            Checks.equal("18: without needs", weave.closedSets(), 2 << k);
        }
        for (int k = 0; k < 11; k++) {
            weave.need(11, k);
        }
        Checks.equal("18: one needs all others", weave.closedSets(), 2049);
        for (int k = 0; k < 11; k++) {
            weave.free(11, k);
            weave.need(k, 11);
        }
        Checks.equal("18: all others need one", weave.closedSets(), 2049);
    }
}
