import java.util.ArrayList;
import java.util.Comparator;
import java.util.HashMap;
import java.util.HashSet;
import java.util.List;
import java.util.Map;
import java.util.NoSuchElementException;
import java.util.Optional;
import java.util.Set;
import java.util.TreeSet;

/**
 * The document told a second time, in lists and sets and without a thought for speed:
 * what the class answers in long runs is compared with it. It shares no code with the class.
 */
final class Model {
    private static final int DAYS = 100;

    private static final class Aim {
        final int number;
        final int lessons;
        final int kind;
        final int worth;
        final int kit;
        final Set<Aim> needs = new HashSet<>();
        int many = 0;
        int gap = 1;

        Aim(int number, int lessons, int kind, int worth, int kit) {
            this.number = number;
            this.lessons = lessons;
            this.kind = kind;
            this.worth = worth;
            this.kit = kit;
        }

        boolean needsByAnyWay(Aim other) {
            return needs.stream().anyMatch(one -> one == other || one.needsByAnyWay(other));
        }
    }

    /** A lesson, or a revisit with the days on which it is due and late; row numbers count from 0. */
    private record Thing(Aim aim, boolean isRevisit, int row, int due, int lateFrom) {
        String name() {
            return (isRevisit ? "revisit " : "lesson ") + aim.number + " " + row;
        }
    }

    private final List<Aim> aims = new ArrayList<>();
    private final Set<Integer> lost = new TreeSet<>();

    int aim(int lessons, int kind, int worth, int kit) {
        if (lessons < 1 || lessons > 5 || kind < 0 || kind > 3 || worth < 1 || worth > 99 || kit < -1 || kit > 2) {
            throw new IllegalArgumentException();
        }
        if (aims.size() == 12) {
            throw new IllegalStateException();
        }
        aims.add(new Aim(aims.size(), lessons, kind, worth, kit));
        return aims.size() - 1;
    }

    private Aim existing(int number) {
        if (number < 0 || number >= aims.size()) {
            throw new IndexOutOfBoundsException();
        }
        return aims.get(number);
    }

    int need(int aim, int other) {
        Aim one = existing(aim);
        Aim needed = existing(other);
        if (one == needed) {
            throw new IllegalArgumentException();
        }
        if (one.needs.contains(needed) || needed.needsByAnyWay(one)) {
            throw new IllegalStateException();
        }
        one.needs.add(needed);
        return one.needs.size();
    }

    int free(int aim, int other) {
        Aim one = existing(aim);
        if (!one.needs.remove(existing(other))) {
            throw new NoSuchElementException();
        }
        return one.needs.size();
    }

    int revisits(int aim, int many, int gap) {
        Aim one = existing(aim);
        if (many < 0 || many > 3 || gap < 1 || gap > 20) {
            throw new IllegalArgumentException();
        }
        int had = one.many;
        one.many = many;
        one.gap = gap;
        return had;
    }

    int aims() {
        return aims.size();
    }

    int allNeeds(int aim) {
        Aim one = existing(aim);
        return aims.stream().filter(one::needsByAnyWay).mapToInt(other -> 1 << other.number).sum();
    }

    private List<Aim> order() {
        List<Aim> order = new ArrayList<>();
        while (order.size() < aims.size()) {
            List<Aim> open = aims.stream().filter(one -> !order.contains(one) && order.containsAll(one.needs)).toList();
            Optional<Aim> kindred = open.stream()
                .filter(one -> !order.isEmpty() && order.get(order.size() - 1).kind == one.kind).findFirst();
            order.add(kindred.orElse(open.get(0)));
        }
        return order;
    }

    int ordered(int place) {
        if (place < 0 || place >= aims.size()) {
            throw new IndexOutOfBoundsException();
        }
        return order().get(place).number;
    }

    private Map<Integer, Thing> plan() {
        Map<Integer, Thing> plan = new HashMap<>();
        List<Thing> lessons = new ArrayList<>();
        for (Aim one : order()) {
            for (int row = 0; row < one.lessons; row++) {
                lessons.add(new Thing(one, false, row, 0, DAYS));
            }
        }
        List<Thing> revisits = new ArrayList<>();
        for (int day = 0; day < DAYS; day++) {
            int today = day;
            if (lost.contains(day)) {
                continue;
            }
            Optional<Thing> pressing = revisits.stream().filter(one -> one.due <= today)
                .min(Comparator.comparingInt(Thing::lateFrom).thenComparingInt(one -> one.aim.number));
            if (pressing.isPresent()) {
                revisits.remove(pressing.get());
                plan.put(day, pressing.get());
                announce(revisits, pressing.get().aim, pressing.get().row + 1, day);
            } else if (!lessons.isEmpty() && hasItsKit(plan, lessons.get(0).aim, day)) {
                Thing lesson = lessons.remove(0);
                plan.put(day, lesson);
                if (lesson.row == lesson.aim.lessons - 1) {
                    announce(revisits, lesson.aim, 0, day);
                }
            }
        }
        return plan;
    }

    private static void announce(List<Thing> revisits, Aim aim, int row, int day) {
        if (row < aim.many) {
            int wait = row == 0 ? aim.gap : row == 1 ? 2 * aim.gap : 4 * aim.gap;
            revisits.add(new Thing(aim, true, row, day + wait, day + wait + wait));
        }
    }

    private static boolean hasItsKit(Map<Integer, Thing> plan, Aim aim, int day) {
        for (Thing other : new Thing[] {plan.get(day - 1), plan.get(day - 2)}) {
            if (other != null && !other.isRevisit && other.aim != aim && aim.kit != -1 && other.aim.kit == aim.kit) {
                return false;
            }
        }
        return true;
    }

    private static Map<String, Integer> daysOf(Map<Integer, Thing> plan) {
        Map<String, Integer> days = new HashMap<>();
        plan.forEach((day, thing) -> days.put(thing.name(), day));
        return days;
    }

    int lose(int day) {
        if (day < 0 || day >= DAYS) {
            throw new IndexOutOfBoundsException();
        }
        if (lost.contains(day)) {
            throw new IllegalStateException();
        }
        Map<String, Integer> before = daysOf(plan());
        lost.add(day);
        Map<String, Integer> after = daysOf(plan());
        return (int) before.keySet().stream().filter(name -> !before.get(name).equals(after.get(name))).count();
    }

    int on(int day) {
        if (day < 0 || day >= DAYS) {
            throw new IndexOutOfBoundsException();
        }
        Thing thing = plan().get(day);
        return thing == null ? -1 : thing.isRevisit ? 100 + thing.aim.number : thing.aim.number;
    }

    int lessonDay(int aim, int lesson) {
        if (lesson < 0 || lesson >= existing(aim).lessons) {
            throw new IndexOutOfBoundsException();
        }
        return daysOf(plan()).getOrDefault("lesson " + aim + " " + lesson, -1);
    }

    int revisitDay(int aim, int revisit) {
        if (revisit < 0 || revisit >= existing(aim).many) {
            throw new IndexOutOfBoundsException();
        }
        return daysOf(plan()).getOrDefault("revisit " + aim + " " + revisit, -1);
    }

    int laid() {
        return plan().size();
    }

    int late() {
        return (int) plan().entrySet().stream()
            .filter(one -> one.getValue().isRevisit && one.getKey() >= one.getValue().lateFrom).count();
    }

    int lastDay() {
        return plan().keySet().stream().mapToInt(day -> day).max().orElse(-1);
    }

    private List<List<Aim>> closed() {
        List<List<Aim>> found = new ArrayList<>();
        grow(new ArrayList<>(), order(), found);
        return found;
    }

    /** Along the order an aim can be taken or left; taken only if all of its needs were. */
    private static void grow(List<Aim> taken, List<Aim> rest, List<List<Aim>> found) {
        if (rest.isEmpty()) {
            found.add(taken);
            return;
        }
        Aim next = rest.get(0);
        List<Aim> behind = rest.subList(1, rest.size());
        grow(taken, behind, found);
        if (taken.containsAll(next.needs)) {
            List<Aim> more = new ArrayList<>(taken);
            more.add(next);
            grow(more, behind, found);
        }
    }

    private static int net(List<Aim> set, int price) {
        return set.stream().mapToInt(one -> one.worth - one.lessons * price).sum();
    }

    private static void testPrice(int price) {
        if (price < 0 || price > 99) {
            throw new IllegalArgumentException();
        }
    }

    int worthwhile(int price) {
        testPrice(price);
        Comparator<List<Aim>> byNet = Comparator.comparingInt(set -> -net(set, price));
        List<Aim> best = closed().stream().min(byNet.thenComparingInt(List::size)).orElseThrow();
        return best.stream().mapToInt(one -> 1 << one.number).sum();
    }

    int bestNet(int price) {
        testPrice(price);
        return closed().stream().mapToInt(set -> net(set, price)).max().orElseThrow();
    }

    int closedSets() {
        return closed().size();
    }
}
