import java.util.NoSuchElementException;

/** Promises 1 to 8: the aims, their needs, and their order. */
public final class AimsTest {
    private static final int NONE = LessonWeave.NONE;
    private static final int LOW = Integer.MIN_VALUE;
    private static final int HIGH = Integer.MAX_VALUE;

    public static void main(String[] args) {
        promise1NewObject();
        promise1NewObjectsAreApart();
        promise2Aim();
        promise2AimRanges();
        promise2TwelveAims();
        promise3Need();
        promise3NeedRefused();
        promise4Free();
        promise4FreeRefused();
        promise5Revisits();
        promise5RevisitsRefused();
        promise6Aims();
        promise7AllNeeds();
        promise7LongWay();
        promise8OrderOfKinds();
        promise8OrderAlongNeeds();
        promise8LongWay();
        promise8Places();
        Checks.end();
    }

    private static LessonWeave withAims(int many) {
        LessonWeave weave = new LessonWeave();
        for (int k = 0; k < many; k++) {
            weave.aim(1, 0, 10, NONE);
        }
        return weave;
    }

    private static void order(String what, LessonWeave weave, int... want) {
        Checks.equal(what + ", aims()", weave.aims(), want.length);
        for (int place = 0; place < want.length; place++) {
            Checks.equal(what + ", ordered(" + place + ")", weave.ordered(place), want[place]);
        }
    }

    private static void promise1NewObject() {
        LessonWeave weave = new LessonWeave();
        Checks.equal("1: aims()", weave.aims(), 0);
        Checks.equal("1: laid()", weave.laid(), 0);
        Checks.equal("1: late()", weave.late(), 0);
        Checks.equal("1: lastDay()", weave.lastDay(), NONE);
        Checks.equal("1: closedSets()", weave.closedSets(), 1);
        Checks.equal("1: worthwhile(0)", weave.worthwhile(0), 0);
        Checks.equal("1: bestNet(0)", weave.bestNet(0), 0);
        Checks.outside("1: ordered(0)", () -> weave.ordered(0));
        Checks.outside("1: allNeeds(0)", () -> weave.allNeeds(0));
        for (int day = 0; day < 100; day++) {
            Checks.equal("1: on(" + day + ")", weave.on(day), NONE);
            Checks.equal("1: lose(" + day + ")", weave.lose(day), 0);
        }
    }

    private static void promise1NewObjectsAreApart() {
        LessonWeave one = withAims(3);
        one.need(0, 1);
        one.lose(0);
        LessonWeave other = new LessonWeave();
        Checks.equal("1: aims() of another object", other.aims(), 0);
        other.aim(1, 0, 1, NONE);
        Checks.equal("1: on(0) of another object", other.on(0), 0);
        Checks.equal("1: aims() of the first object", one.aims(), 3);
    }

    private static void promise2Aim() {
        LessonWeave weave = new LessonWeave();
        Checks.equal("2: the first aim", weave.aim(3, 2, 50, 1), 0);
        Checks.equal("2: the second aim", weave.aim(2, 1, 60, NONE), 1);
        Checks.equal("2: no needs", weave.allNeeds(1), 0);
        Checks.equal("2: no revisits", weave.revisits(1, 0, 5), 0);
        Checks.outside("2: no first revisit", () -> weave.revisitDay(0, 0));
        Checks.equal("2: its lessons", weave.laid(), 5);
        Checks.equal("2: its last lesson", weave.lessonDay(0, 2), 2);
        Checks.outside("2: no lesson beyond", () -> weave.lessonDay(0, 3));
        Checks.equal("2: worth less lessons", weave.bestNet(10), 20 + 40);
    }

    private static void promise2AimRanges() {
        LessonWeave weave = withAims(1);
        int[][] wrong = {
            {0, 0, 1, 0}, {6, 0, 1, 0}, {-1, 0, 1, 0}, {LOW, 0, 1, 0}, {HIGH, 0, 1, 0},
            {1, -1, 1, 0}, {1, 4, 1, 0}, {1, LOW, 1, 0}, {1, HIGH, 1, 0},
            {1, 0, 0, 0}, {1, 0, 100, 0}, {1, 0, -1, 0}, {1, 0, LOW, 0}, {1, 0, HIGH, 0},
            {1, 0, 1, -2}, {1, 0, 1, 3}, {1, 0, 1, LOW}, {1, 0, 1, HIGH},
        };
        for (int[] row : wrong) {
            String call = "2: aim(" + row[0] + ", " + row[1] + ", " + row[2] + ", " + row[3] + ")";
            Checks.badArgument(call, () -> weave.aim(row[0], row[1], row[2], row[3]));
        }
        Checks.equal("2: none was added", weave.aims(), 1);
        Checks.equal("2: nothing was laid", weave.laid(), 1);
        Checks.equal("2: all least", weave.aim(1, 0, 1, NONE), 1);
        Checks.equal("2: all greatest", weave.aim(5, 3, 99, 2), 2);
        Checks.equal("2: the kit 0", weave.aim(5, 3, 99, 0), 3);
    }

    private static void promise2TwelveAims() {
        LessonWeave weave = new LessonWeave();
        for (int k = 0; k < 12; k++) {
            Checks.equal("2: the aim " + k, weave.aim(1, k % 4, 1 + k, k % 4 - 1), k);
        }
        Checks.badState("2: the 13th aim", () -> weave.aim(1, 0, 1, 0));
        Checks.badArgument("2: the 13th aim, out of range", () -> weave.aim(0, 0, 1, 0));
        Checks.badArgument("2: the 13th aim, no such kit", () -> weave.aim(1, 0, 1, 3));
        Checks.equal("2: still 12", weave.aims(), 12);
    }

    private static void promise3Need() {
        LessonWeave weave = withAims(4);
        Checks.equal("3: need(0, 1)", weave.need(0, 1), 1);
        Checks.equal("3: need(0, 2)", weave.need(0, 2), 2);
        Checks.equal("3: need(2, 1)", weave.need(2, 1), 1);
        Checks.equal("3: need(3, 0)", weave.need(3, 0), 1);
        Checks.equal("3: needed by way of others, but not by itself", weave.need(3, 1), 2);
        Checks.equal("3: allNeeds(3)", weave.allNeeds(3), 0b0111);
        order("3", weave, 1, 2, 0, 3);
        Checks.equal("3: the plan follows", weave.on(0), 1);
    }

    private static void promise3NeedRefused() {
        LessonWeave weave = withAims(4);
        weave.need(0, 1);
        weave.need(1, 2);
        weave.need(2, 3);
        for (int no : new int[] {-1, 4, 12, 31, 32, LOW, HIGH}) {
            Checks.outside("3: need(" + no + ", 0)", () -> weave.need(no, 0));
            Checks.outside("3: need(0, " + no + ")", () -> weave.need(0, no));
            Checks.outside("3: need(" + no + ", " + no + ")", () -> weave.need(no, no));
        }
        for (int aim = 0; aim < 4; aim++) {
            int same = aim;
            Checks.badArgument("3: need itself, " + aim, () -> weave.need(same, same));
        }
        Checks.badState("3: needs it already", () -> weave.need(0, 1));
        Checks.badState("3: the other one needs it", () -> weave.need(1, 0));
        Checks.badState("3: by way of one", () -> weave.need(2, 0));
        Checks.badState("3: by way of two", () -> weave.need(3, 0));
        Checks.equal("3: nothing has changed", weave.allNeeds(0), 0b1110);
        Checks.equal("3: nothing has changed", weave.allNeeds(3), 0);
        Checks.equal("3: one by itself still", weave.need(0, 3), 2);
        order("3", weave, 3, 2, 1, 0);
    }

    private static void promise4Free() {
        LessonWeave weave = withAims(4);
        weave.need(0, 1);
        weave.need(0, 2);
        weave.need(0, 3);
        weave.need(1, 3);
        Checks.equal("4: free(0, 1)", weave.free(0, 1), 2);
        Checks.equal("4: the others stay", weave.allNeeds(0), 0b1100);
        Checks.equal("4: the need of the other stays", weave.allNeeds(1), 0b1000);
        order("4", weave, 2, 3, 0, 1);
        Checks.equal("4: the plan follows", weave.on(2), 0);
        Checks.equal("4: free(0, 3)", weave.free(0, 3), 1);
        Checks.equal("4: free(0, 2)", weave.free(0, 2), 0);
        Checks.equal("4: nothing is left", weave.allNeeds(0), 0);
        Checks.equal("4: the other way round is open then", weave.need(1, 0), 2);
    }

    private static void promise4FreeRefused() {
        LessonWeave weave = withAims(3);
        weave.need(0, 1);
        weave.need(1, 2);
        for (int no : new int[] {-1, 3, 12, 33, LOW, HIGH}) {
            Checks.outside("4: free(" + no + ", 1)", () -> weave.free(no, 1));
            Checks.outside("4: free(0, " + no + ")", () -> weave.free(0, no));
            Checks.outside("4: free(" + no + ", " + no + ")", () -> weave.free(no, no));
        }
        Class<NoSuchElementException> none = NoSuchElementException.class;
        Checks.thrown("4: needed by way of another only", none, () -> weave.free(0, 2));
        Checks.thrown("4: needed the other way round", none, () -> weave.free(1, 0));
        Checks.thrown("4: itself", none, () -> weave.free(0, 0));
        Checks.equal("4: nothing has changed", weave.allNeeds(0), 0b110);
        weave.free(0, 1);
        Checks.thrown("4: freed already", none, () -> weave.free(0, 1));
    }

    private static void promise5Revisits() {
        LessonWeave weave = withAims(2);
        Checks.equal("5: none at first", weave.revisits(1, 3, 20), 0);
        Checks.equal("5: three before", weave.revisits(1, 1, 1), 3);
        Checks.equal("5: one before", weave.revisits(1, 2, 4), 1);
        Checks.equal("5: none of the other aim", weave.revisits(0, 0, 1), 0);
        Checks.equal("5: the first one", weave.revisitDay(1, 0), 1 + 4);
        Checks.equal("5: the second one", weave.revisitDay(1, 1), 5 + 8);
        Checks.equal("5: two before", weave.revisits(1, 0, 4), 2);
        Checks.equal("5: the revisits are gone", weave.laid(), 2);
        Checks.equal("5: at the most", weave.revisits(0, 3, 20), 0);
        Checks.equal("5: the third one", weave.revisitDay(0, 2), NONE);
        Checks.equal("5: the second one of the greatest gap", weave.revisitDay(0, 1), 60);
    }

    private static void promise5RevisitsRefused() {
        LessonWeave weave = withAims(2);
        weave.revisits(0, 2, 3);
        for (int no : new int[] {-1, 2, 12, LOW, HIGH}) {
            Checks.outside("5: revisits(" + no + ", 1, 1)", () -> weave.revisits(no, 1, 1));
            Checks.outside("5: revisits(" + no + ", 4, 0)", () -> weave.revisits(no, 4, 0));
        }
        for (int no : new int[] {-1, 4, LOW, HIGH}) {
            Checks.badArgument("5: revisits(0, " + no + ", 1)", () -> weave.revisits(0, no, 1));
        }
        for (int no : new int[] {-1, 0, 21, LOW, HIGH}) {
            Checks.badArgument("5: revisits(0, 1, " + no + ")", () -> weave.revisits(0, 1, no));
            Checks.badArgument("5: revisits(0, 0, " + no + ")", () -> weave.revisits(0, 0, no));
        }
        Checks.equal("5: the gap has not changed", weave.revisitDay(0, 0), 3);
        Checks.equal("5: nothing has changed", weave.revisits(0, 0, 1), 2);
    }

    private static void promise6Aims() {
        for (int many = 0; many <= 12; many++) {
            Checks.equal("6: aims()", withAims(many).aims(), many);
        }
    }

    private static void promise7AllNeeds() {
        LessonWeave weave = withAims(6);
        weave.need(5, 4);
        weave.need(5, 3);
        weave.need(4, 2);
        weave.need(3, 2);
        weave.need(2, 0);
        Checks.equal("7: allNeeds(5)", weave.allNeeds(5), 0b011101);
        Checks.equal("7: allNeeds(4)", weave.allNeeds(4), 0b000101);
        Checks.equal("7: allNeeds(3)", weave.allNeeds(3), 0b000101);
        Checks.equal("7: allNeeds(2)", weave.allNeeds(2), 0b000001);
        Checks.equal("7: allNeeds(1)", weave.allNeeds(1), 0);
        Checks.equal("7: allNeeds(0)", weave.allNeeds(0), 0);
        for (int no : new int[] {-1, 6, 12, LOW, HIGH}) {
            Checks.outside("7: allNeeds(" + no + ")", () -> weave.allNeeds(no));
        }
    }

    private static void promise7LongWay() {
        LessonWeave up = withAims(12);
        LessonWeave down = withAims(12);
        for (int k = 0; k < 11; k++) {
            up.need(k + 1, k);
            down.need(k, k + 1);
        }
        for (int k = 0; k < 12; k++) {
            Checks.equal("7: the way up, " + k, up.allNeeds(k), (1 << k) - 1);
            Checks.equal("7: the way down, " + k, down.allNeeds(k), 0xFFF & ~((2 << k) - 1));
        }
        Checks.badState("3: the longest way round", () -> up.need(0, 11));
        Checks.badState("3: the longest way round", () -> down.need(11, 0));
    }

    private static void promise8OrderOfKinds() {
        LessonWeave weave = new LessonWeave();
        weave.aim(1, 3, 1, NONE);
        weave.aim(1, 0, 1, NONE);
        weave.aim(1, 1, 1, NONE);
        weave.aim(1, 0, 1, NONE);
        weave.aim(1, 3, 1, NONE);
        weave.aim(1, 1, 1, NONE);
        order("8: kindred ones together", weave, 0, 4, 1, 3, 2, 5);
    }

    private static void promise8OrderAlongNeeds() {
        LessonWeave weave = new LessonWeave();
        weave.aim(1, 0, 1, NONE);
        weave.aim(1, 1, 1, NONE);
        weave.aim(1, 0, 1, NONE);
        weave.aim(1, 1, 1, NONE);
        weave.aim(1, 2, 1, NONE);
        weave.need(2, 3);
        order("8: a kindred one that is not open yet", weave, 0, 1, 3, 2, 4);
        weave.need(0, 4);
        order("8: the lowest open one begins", weave, 1, 3, 2, 4, 0);
        weave.need(1, 2);
        order("8: no kindred one is open", weave, 3, 2, 1, 4, 0);
        weave.free(0, 4);
        order("8: the lowest of all is open again", weave, 0, 3, 2, 1, 4);
    }

    private static void promise8LongWay() {
        LessonWeave weave = withAims(12);
        for (int k = 0; k < 11; k++) {
            weave.need(k, k + 1);
        }
        order("8: the longest way", weave, 11, 10, 9, 8, 7, 6, 5, 4, 3, 2, 1, 0);
    }

    private static void promise8Places() {
        LessonWeave weave = withAims(3);
        for (int no : new int[] {-1, 3, 11, 12, LOW, HIGH}) {
            Checks.outside("8: ordered(" + no + ")", () -> weave.ordered(no));
        }
        Checks.equal("8: the last place", weave.ordered(2), 2);
    }
}
