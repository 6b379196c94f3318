import java.util.Arrays;
import java.util.NoSuchElementException;

public final class LessonWeave {
    public static final int NONE = -1;
    public static final int REVISIT = 100;

    private static final int MOST_AIMS = 12;
    private static final int MOST_LESSONS = 5;
    private static final int LAST_KIND = 3;
    private static final int MOST_WORTH = 99;
    private static final int LAST_KIT = 2;
    private static final int MOST_REVISITS = 3;
    private static final int MOST_GAP = 20;
    private static final int MOST_PRICE = 99;
    private static final int DAYS = 100;
    private static final int KIT_REST = 2;

    private final Syllabus syllabus;
    private final boolean[] lost;
    private Plan plan;
    // The plan before the last change: its rows are used again for the next one.
    private Plan formerPlan;

    public LessonWeave() {
        syllabus = new Syllabus();
        lost = new boolean[DAYS];
        plan = new Plan();
        formerPlan = new Plan();
    }

    // ---- aims

    public int aim(int lessons, int kind, int worth, int kit) throws IllegalArgumentException, IllegalStateException {
        if (!isWithin(lessons, 1, MOST_LESSONS)) {
            throw new IllegalArgumentException("an aim has 1 to 5 lessons");
        }
        if (!isWithin(kind, 0, LAST_KIND)) {
            throw new IllegalArgumentException("a kind is 0 to 3");
        }
        if (!isWithin(worth, 1, MOST_WORTH)) {
            throw new IllegalArgumentException("a worth is 1 to 99");
        }
        if (kit != NONE && !isWithin(kit, 0, LAST_KIT)) {
            throw new IllegalArgumentException("a kit is 0 to 2, or NONE");
        }
        if (syllabus.count >= MOST_AIMS) {
            throw new IllegalStateException("there are 12 aims already");
        }
        int number = syllabus.add(lessons, kind, worth, kit);
        planAnew();
        return number;
    }

    public int need(int aim, int other) throws IndexOutOfBoundsException, IllegalArgumentException, IllegalStateException {
        if (!isAim(aim) || !isAim(other)) {
            throw new IndexOutOfBoundsException("there is no such aim");
        }
        if (aim == other) {
            throw new IllegalArgumentException("no aim needs itself");
        }
        if (has(syllabus.needs[aim], other)) {
            throw new IllegalStateException("it needs the other one already");
        }
        if (has(syllabus.neededByAnyWay(other), aim)) {
            throw new IllegalStateException("the other one needs it");
        }
        syllabus.setNeeds(aim, syllabus.needs[aim] | 1 << other);
        planAnew();
        return Integer.bitCount(syllabus.needs[aim]);
    }

    public int free(int aim, int other) throws IndexOutOfBoundsException, java.util.NoSuchElementException {
        if (!isAim(aim) || !isAim(other)) {
            throw new IndexOutOfBoundsException("there is no such aim");
        }
        if (!has(syllabus.needs[aim], other)) {
            throw new NoSuchElementException("it does not need the other one by itself");
        }
        syllabus.setNeeds(aim, syllabus.needs[aim] & ~(1 << other));
        planAnew();
        return Integer.bitCount(syllabus.needs[aim]);
    }

    public int revisits(int aim, int many, int gap) throws IndexOutOfBoundsException, IllegalArgumentException {
        if (!isAim(aim)) {
            throw new IndexOutOfBoundsException("there is no such aim");
        }
        if (!isWithin(many, 0, MOST_REVISITS)) {
            throw new IllegalArgumentException("an aim has 0 to 3 revisits");
        }
        if (!isWithin(gap, 1, MOST_GAP)) {
            throw new IllegalArgumentException("a gap is 1 to 20");
        }
        int had = syllabus.many[aim];
        syllabus.many[aim] = many;
        syllabus.gap[aim] = gap;
        planAnew();
        return had;
    }

    public int aims() {
        return syllabus.count;
    }

    public int allNeeds(int aim) throws IndexOutOfBoundsException {
        if (!isAim(aim)) {
            throw new IndexOutOfBoundsException("there is no such aim");
        }
        return syllabus.neededByAnyWay(aim);
    }

    public int ordered(int place) throws IndexOutOfBoundsException {
        if (!isWithin(place, 0, syllabus.count - 1)) {
            throw new IndexOutOfBoundsException("there are not so many aims");
        }
        return syllabus.order[place];
    }

    // ---- the plan

    public int lose(int day) throws IndexOutOfBoundsException, IllegalStateException {
        if (!isDay(day)) {
            throw new IndexOutOfBoundsException("there is no such day");
        }
        if (lost[day]) {
            throw new IllegalStateException("the day is lost already");
        }
        lost[day] = true;
        planAnew();
        return plan.movedSince(formerPlan);
    }

    public int on(int day) throws IndexOutOfBoundsException {
        if (!isDay(day)) {
            throw new IndexOutOfBoundsException("there is no such day");
        }
        return plan.things[day];
    }

    public int lessonDay(int aim, int lesson) throws IndexOutOfBoundsException {
        if (!isAim(aim)) {
            throw new IndexOutOfBoundsException("there is no such aim");
        }
        if (!isWithin(lesson, 0, syllabus.lessons[aim] - 1)) {
            throw new IndexOutOfBoundsException("the aim has no such lesson");
        }
        return plan.lessonDays[aim * MOST_LESSONS + lesson];
    }

    public int revisitDay(int aim, int revisit) throws IndexOutOfBoundsException {
        if (!isAim(aim)) {
            throw new IndexOutOfBoundsException("there is no such aim");
        }
        if (!isWithin(revisit, 0, syllabus.many[aim] - 1)) {
            throw new IndexOutOfBoundsException("the aim has no such revisit");
        }
        return plan.revisitDays[aim * MOST_REVISITS + revisit];
    }

    public int laid() {
        return plan.laidCount;
    }

    public int late() {
        return plan.lateCount;
    }

    public int lastDay() {
        return plan.lastUsed;
    }

    // ---- what gives way

    public int worthwhile(int price) throws IllegalArgumentException {
        if (!isWithin(price, 0, MOST_PRICE)) {
            throw new IllegalArgumentException("a price is 0 to 99");
        }
        return syllabus.bestSet(price);
    }

    public int bestNet(int price) throws IllegalArgumentException {
        if (!isWithin(price, 0, MOST_PRICE)) {
            throw new IllegalArgumentException("a price is 0 to 99");
        }
        return syllabus.netOf(syllabus.bestSet(price), price);
    }

    public int closedSets() {
        return syllabus.countClosed();
    }

    private boolean isAim(int aim) {
        return isWithin(aim, 0, syllabus.count - 1);
    }

    private void planAnew() {
        Plan next = formerPlan;
        formerPlan = plan;
        plan = next;
        plan.lay(syllabus, lost);
    }

    private static boolean isDay(int day) {
        return isWithin(day, 0, DAYS - 1);
    }

    private static boolean isWithin(int number, int least, int most) {
        return number >= least && number <= most;
    }

    private static boolean has(int set, int aim) {
        return (set >> aim & 1) == 1;
    }

    // Apart from the plan, as a lost day changes nothing of it.
    private static final class Syllabus {
        private int count;
        private final int[] lessons;
        private final int[] kind;
        private final int[] worth;
        private final int[] kit;
        private final int[] many;
        private final int[] gap;
        private final int[] needs;
        private final int[] order;

        Syllabus() {
            lessons = new int[MOST_AIMS];
            kind = new int[MOST_AIMS];
            worth = new int[MOST_AIMS];
            kit = new int[MOST_AIMS];
            many = new int[MOST_AIMS];
            gap = new int[MOST_AIMS];
            needs = new int[MOST_AIMS];
            order = new int[MOST_AIMS];
        }

        int add(int itsLessons, int itsKind, int itsWorth, int itsKit) {
            int number = count;
            lessons[number] = itsLessons;
            kind[number] = itsKind;
            worth[number] = itsWorth;
            kit[number] = itsKit;
            gap[number] = 1;
            count++;
            putInOrder();
            return number;
        }

        void setNeeds(int aim, int set) {
            needs[aim] = set;
            putInOrder();
        }

        int neededByAnyWay(int aim) {
            int found = needs[aim];
            // A way of needs is no longer than there are aims, so as many rounds find all.
            for (int round = 1; round < count; round++) {
                found |= neededBy(found);
            }
            return found;
        }

        private int neededBy(int set) {
            int needed = 0;
            for (int aim = 0; aim < count; aim++) {
                if (has(set, aim)) {
                    needed |= needs[aim];
                }
            }
            return needed;
        }

        private void putInOrder() {
            int taken = 0;
            int lastKind = NONE;
            for (int place = 0; place < count; place++) {
                int next = nextTaken(taken, lastKind);
                // Never so, as no aim needs itself by any way: the test keeps the index safe.
                if (next == NONE) {
                    return;
                }
                order[place] = next;
                taken |= 1 << next;
                lastKind = kind[next];
            }
        }

        private int nextTaken(int taken, int lastKind) {
            int lowest = NONE;
            for (int aim = 0; aim < count; aim++) {
                if (has(taken, aim) || !isCovered(needs[aim], taken)) {
                    continue;
                }
                if (kind[aim] == lastKind) {
                    return aim;
                }
                if (lowest == NONE) {
                    lowest = aim;
                }
            }
            return lowest;
        }

        private static boolean isCovered(int set, int by) {
            return (set & ~by) == 0;
        }

        int countClosed() {
            int closed = 0;
            for (int set = 0; set < 1 << count; set++) {
                if (isClosed(set)) {
                    closed++;
                }
            }
            return closed;
        }

        int bestSet(int price) {
            int best = 0;
            int greatest = 0;
            for (int set = 1; set < 1 << count; set++) {
                if (!isClosed(set)) {
                    continue;
                }
                int net = netOf(set, price);
                if (net > greatest || net == greatest && Integer.bitCount(set) < Integer.bitCount(best)) {
                    best = set;
                    greatest = net;
                }
            }
            return best;
        }

        private boolean isClosed(int set) {
            for (int aim = 0; aim < count; aim++) {
                if (has(set, aim) && !isCovered(needs[aim], set)) {
                    return false;
                }
            }
            return true;
        }

        int netOf(int set, int price) {
            int net = 0;
            for (int aim = 0; aim < count; aim++) {
                if (has(set, aim)) {
                    net += worth[aim] - price * lessons[aim];
                }
            }
            return net;
        }
    }

    // Laid whole anew after each change, as a change can shift all that lies behind it.
    private static final class Plan {
        private final int[] things;
        private final int[] lessonDays;
        private final int[] revisitDays;
        private final int[] lessonsLaid;
        private final int[] revisitsLaid;
        // The day of an aim's lesson or revisit laid last: its next revisit is counted from there.
        private final int[] since;
        private int laidCount;
        private int lateCount;
        private int lastUsed;

        Plan() {
            things = new int[DAYS];
            lessonDays = new int[MOST_AIMS * MOST_LESSONS];
            revisitDays = new int[MOST_AIMS * MOST_REVISITS];
            lessonsLaid = new int[MOST_AIMS];
            revisitsLaid = new int[MOST_AIMS];
            since = new int[MOST_AIMS];
            clear();
        }

        private void clear() {
            Arrays.fill(things, NONE);
            Arrays.fill(lessonDays, NONE);
            Arrays.fill(revisitDays, NONE);
            Arrays.fill(lessonsLaid, 0);
            Arrays.fill(revisitsLaid, 0);
            Arrays.fill(since, 0);
            laidCount = 0;
            lateCount = 0;
            lastUsed = NONE;
        }

        void lay(Syllabus syllabus, boolean[] lost) {
            clear();
            for (int day = 0; day < DAYS; day++) {
                if (!lost[day]) {
                    layOn(day, syllabus);
                }
            }
        }

        private void layOn(int day, Syllabus syllabus) {
            int revisited = mostPressing(day, syllabus);
            if (revisited != NONE) {
                layRevisit(revisited, day, syllabus);
                return;
            }
            int taught = firstUnfinished(syllabus);
            if (taught != NONE && !isKitTaken(taught, day, syllabus)) {
                layLesson(taught, day);
            }
        }

        private int mostPressing(int day, Syllabus syllabus) {
            int pressing = NONE;
            int earliest = 0;
            for (int aim = 0; aim < syllabus.count; aim++) {
                if (!isDue(aim, day, syllabus)) {
                    continue;
                }
                int lateFrom = lateFrom(aim, syllabus);
                if (pressing == NONE || lateFrom < earliest) {
                    pressing = aim;
                    earliest = lateFrom;
                }
            }
            return pressing;
        }

        private boolean isDue(int aim, int day, Syllabus syllabus) {
            return lessonsLaid[aim] >= syllabus.lessons[aim]
                && revisitsLaid[aim] < syllabus.many[aim]
                && day >= since[aim] + nextGap(aim, syllabus);
        }

        private int lateFrom(int aim, Syllabus syllabus) {
            return since[aim] + 2 * nextGap(aim, syllabus);
        }

        // A shift, as the gap doubles with each revisit laid.
        private int nextGap(int aim, Syllabus syllabus) {
            return syllabus.gap[aim] << revisitsLaid[aim];
        }

        private int firstUnfinished(Syllabus syllabus) {
            for (int place = 0; place < syllabus.count; place++) {
                int aim = syllabus.order[place];
                if (lessonsLaid[aim] < syllabus.lessons[aim]) {
                    return aim;
                }
            }
            return NONE;
        }

        private boolean isKitTaken(int aim, int day, Syllabus syllabus) {
            if (syllabus.kit[aim] == NONE) {
                return false;
            }
            for (int before = day - KIT_REST; before < day; before++) {
                if (before >= 0 && isOthersLesson(things[before], aim, syllabus)
                    && syllabus.kit[things[before]] == syllabus.kit[aim]) {
                    return true;
                }
            }
            return false;
        }

        private static boolean isOthersLesson(int thing, int aim, Syllabus syllabus) {
            return thing >= 0 && thing < syllabus.count && thing != aim;
        }

        private void layLesson(int aim, int day) {
            lessonDays[aim * MOST_LESSONS + lessonsLaid[aim]] = day;
            lessonsLaid[aim]++;
            use(day, aim, aim);
        }

        private void layRevisit(int aim, int day, Syllabus syllabus) {
            if (day >= lateFrom(aim, syllabus)) {
                lateCount++;
            }
            revisitDays[aim * MOST_REVISITS + revisitsLaid[aim]] = day;
            revisitsLaid[aim]++;
            use(day, aim, REVISIT + aim);
        }

        private void use(int day, int aim, int thing) {
            things[day] = thing;
            since[aim] = day;
            laidCount++;
            lastUsed = day;
        }

        int movedSince(Plan former) {
            return changed(former.lessonDays, lessonDays) + changed(former.revisitDays, revisitDays);
        }

        private static int changed(int[] before, int[] after) {
            int changes = 0;
            for (int k = 0; k < before.length && k < after.length; k++) {
                // What was not laid before does not move, though it may be laid now.
                if (before[k] != NONE && before[k] != after[k]) {
                    changes++;
                }
            }
            return changes;
        }
    }
}
