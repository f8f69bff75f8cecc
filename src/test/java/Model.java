import java.util.ArrayDeque;
import java.util.ArrayList;
import java.util.Deque;
import java.util.HashMap;
import java.util.HashSet;
import java.util.LinkedHashSet;
import java.util.List;
import java.util.Map;
import java.util.NoSuchElementException;
import java.util.Set;
import java.util.TreeSet;

/**
 * A second reading of the document, slow and separate from the class: worlds are written out and looked at one by
 * one with each night that was told, histories are gone through by the calls of a new model.
 */
final class Model {
    record Role(char side, char act, int weight, boolean isOnce, boolean isFool, boolean isHunter) {
    }

    record Event(String kind, int seat, int other) {
    }

    record Sight(int night, int seat, int target, char told, Set<Integer> living) {
    }

    record Claim(int seat, int other, char side) {
    }

    private final List<Role> roles = new ArrayList<>();
    private final Map<Integer, Integer> look = new HashMap<>();
    private final List<Integer> deal = new ArrayList<>();
    private List<Integer> pair = List.of();
    private final Map<Integer, Integer> heirOf = new HashMap<>();
    private final Map<Integer, Integer> marked = new HashMap<>();
    private Map<Integer, Integer> markedAtBegin = Map.of();
    private boolean begun;
    private boolean night;
    private int number;
    private char winner = '-';
    private final Map<Integer, Integer> roleNow = new HashMap<>();
    private final Map<Integer, Character> dead = new HashMap<>();
    private final Set<Integer> usedUp = new HashSet<>();
    private boolean heirGot;
    private final Map<Integer, Integer> told = new HashMap<>();
    private final Map<Integer, Integer> ballots = new HashMap<>();
    private final Map<Integer, Integer> ghostDay = new HashMap<>();
    private Set<Integer> silenced = new HashSet<>();
    private Set<Integer> done = new HashSet<>();
    private final List<Sight> sights = new ArrayList<>();
    private int nightsOver;
    private final List<Event> history = new ArrayList<>();
    private final List<Claim> claims = new ArrayList<>();
    private List<List<Integer>> allWorlds;

    // ---- roles and seats ----

    int role(char side, char act, int weight, boolean isOnce, boolean isFool, boolean isHunter) {
        if ("vwl".indexOf(side) < 0 || "-brdpsqk".indexOf(act) < 0 || (weight != 1 && weight != 2)) {
            throw new IllegalArgumentException();
        }
        setUpOnly();
        if (roles.size() == 8) {
            throw new IllegalStateException();
        }
        look.put(roles.size(), roles.size());
        roles.add(new Role(side, act, weight, isOnce, isFool, isHunter));
        return roles.size() - 1;
    }

    int seems(int role, int other) {
        needRole(role);
        needRole(other);
        setUpOnly();
        return look.put(role, other);
    }

    int seat(int role) {
        needRole(role);
        setUpOnly();
        if (deal.size() == 7) {
            throw new IllegalStateException();
        }
        roleNow.put(deal.size(), role);
        deal.add(role);
        return deal.size() - 1;
    }

    boolean lovers(int seat, int other) {
        needTwo(seat, other);
        setUpOnly();
        boolean were = !pair.isEmpty();
        pair = List.of(seat, other);
        return were;
    }

    int mark(int seat, int other) {
        needTwo(seat, other);
        if (dead.containsKey(seat) || winner != '-') {
            throw new UnsupportedOperationException();
        }
        if (begun) {
            history.add(new Event("mark", seat, other));
        }
        Integer before = marked.put(seat, other);
        return before == null ? -1 : before;
    }

    int heir(int seat, int other) {
        needTwo(seat, other);
        setUpOnly();
        Integer before = heirOf.put(seat, other);
        return before == null ? -1 : before;
    }

    int begin() {
        setUpOnly();
        if (deal.size() < 3) {
            throw new IllegalStateException();
        }
        begun = true;
        night = true;
        markedAtBegin = new HashMap<>(marked);
        return deal.size();
    }

    // ---- nights and days ----

    boolean act(int seat, int target) {
        needSeat(seat);
        needSeat(target);
        needRunning();
        if (!night || dead.containsKey(seat) || dead.containsKey(target) || seat == target
            || roleNow(seat).act() == '-' || usedUp.contains(seat)) {
            throw new UnsupportedOperationException();
        }
        history.add(new Event("act", seat, target));
        return told.put(seat, target) != null;
    }

    int dawn() {
        needRunning();
        if (!night) {
            throw new UnsupportedOperationException();
        }
        history.add(new Event("dawn", -1, -1));
        Set<Integer> living = livingSeats();
        Set<Integer> holding = blocksThatHold();
        Map<Integer, Integer> free = new HashMap<>(told);
        holding.forEach(blocker -> free.remove(told.get(blocker)));
        Map<Integer, Integer> aim = turned(free);
        Set<Integer> drunk = aimedBy(aim, 'd', Set.of());
        Set<Integer> safe = aimedBy(aim, 'p', drunk);
        for (int seat : new TreeSet<>(aim.keySet())) {
            if (roleNow(seat).act() == 's') {
                boolean isW = roleNow(aim.get(seat)).side() == 'w';
                if (roleNow(seat).isFool()) {
                    isW = !isW;
                }
                if (drunk.contains(seat)) {
                    isW = !isW;
                }
                sights.add(new Sight(nightsOver, seat, aim.get(seat), isW ? 'w' : 'v', living));
            }
        }
        silenced = aimedBy(aim, 'q', Set.of());
        Set<Integer> dying = new TreeSet<>(aimedBy(aim, 'k', drunk));
        dying.removeAll(safe);
        done = new HashSet<>();
        for (int seat : aim.keySet()) {
            char act = roleNow(seat).act();
            boolean isTooDrunk = (act == 'p' || act == 'k') && drunk.contains(seat);
            boolean isFailing = act == 'b' && !holding.contains(seat);
            if (!isTooDrunk && !isFailing) {
                done.add(seat);
            }
            if (roleNow(seat).isOnce()) {
                usedUp.add(seat);
            }
        }
        nightsOver++;
        int before = dead.size();
        die(dying, 'k');
        night = false;
        ballots.clear();
        look();
        return dead.size() - before;
    }

    private Set<Integer> blocksThatHold() {
        Set<Integer> open = new HashSet<>();
        told.keySet().stream().filter(seat -> roleNow(seat).act() == 'b').forEach(open::add);
        Set<Integer> holding = new HashSet<>();
        Set<Integer> failing = new HashSet<>();
        boolean isNew = true;
        while (isNew) {
            Set<Integer> holdNow = new HashSet<>();
            Set<Integer> failNow = new HashSet<>();
            for (int blocker : open) {
                boolean byHolding = holding.stream().anyMatch(other -> told.get(other) == blocker);
                boolean byOpen = open.stream().anyMatch(other -> told.get(other) == blocker);
                if (byHolding) {
                    failNow.add(blocker);
                } else if (!byOpen) {
                    holdNow.add(blocker);
                }
            }
            holding.addAll(holdNow);
            failing.addAll(failNow);
            open.removeAll(holdNow);
            open.removeAll(failNow);
            isNew = !holdNow.isEmpty() || !failNow.isEmpty();
        }
        return holding;
    }

    private Map<Integer, Integer> turned(Map<Integer, Integer> free) {
        Map<Integer, Integer> aim = new HashMap<>(free);
        Set<Integer> already = new HashSet<>();
        for (int turner : new TreeSet<>(free.keySet())) {
            int target = free.get(turner);
            if (roleNow(turner).act() == 'r' && free.containsKey(target)
                && "br".indexOf(roleNow(target).act()) < 0 && already.add(target)) {
                aim.put(target, turner);
            }
        }
        return aim;
    }

    private Set<Integer> aimedBy(Map<Integer, Integer> aim, char act, Set<Integer> without) {
        Set<Integer> aimed = new HashSet<>();
        aim.forEach((seat, target) -> {
            if (roleNow(seat).act() == act && !without.contains(seat)) {
                aimed.add(target);
            }
        });
        return aimed;
    }

    private void die(Set<Integer> first, char cause) {
        Deque<Integer> order = new ArrayDeque<>();
        for (int seat : first) {
            dead.put(seat, cause);
            order.addLast(seat);
        }
        while (!order.isEmpty()) {
            int seat = order.removeFirst();
            if (pair.contains(seat)) {
                dieOf(pair.get(0) == seat ? pair.get(1) : pair.get(0), 'l', order);
            }
            if (roleNow(seat).isHunter() && marked.containsKey(seat)) {
                dieOf(marked.get(seat), 'h', order);
            }
            for (int heir : heirOf.keySet()) {
                if (heirOf.get(heir) == seat && !dead.containsKey(heir)) {
                    roleNow.put(heir, roleNow.get(seat));
                    if (usedUp.contains(seat)) {
                        usedUp.add(heir);
                    } else {
                        usedUp.remove(heir);
                    }
                    heirGot = true;
                }
            }
        }
    }

    private void dieOf(int seat, char cause, Deque<Integer> order) {
        if (!dead.containsKey(seat)) {
            dead.put(seat, cause);
            order.addLast(seat);
        }
    }

    private void look() {
        int all = living('*');
        if (all == 0) {
            winner = 'n';
        } else if (all == 1 && living('l') == 1) {
            winner = 'l';
        } else if (living('v') == all) {
            winner = 'v';
        } else if (2 * living('w') >= all) {
            winner = 'w';
        }
    }

    boolean didAct(int seat) {
        needSeat(seat);
        if (nightsOver == 0) {
            throw new NoSuchElementException();
        }
        return done.contains(seat);
    }

    char told(int seat, int night) {
        return sight(seat, night).told();
    }

    int seen(int seat, int night) {
        return sight(seat, night).target();
    }

    private Sight sight(int seat, int night) {
        needSeat(seat);
        if (night < 0 || night >= nightsOver) {
            throw new NoSuchElementException();
        }
        for (Sight sight : sights) {
            if (sight.seat() == seat && sight.night() == night) {
                return sight;
            }
        }
        return new Sight(night, seat, -1, '-', Set.of());
    }

    boolean vote(int seat, int target) {
        needSeat(seat);
        needSeat(target);
        needRunning();
        boolean isSpent = dead.containsKey(seat) && ghostDay.containsKey(seat) && ghostDay.get(seat) != number;
        if (night || dead.containsKey(target) || silenced.contains(seat) || isSpent) {
            throw new UnsupportedOperationException();
        }
        history.add(new Event("vote", seat, target));
        if (dead.containsKey(seat)) {
            ghostDay.put(seat, number);
        }
        return ballots.put(seat, target) != null;
    }

    int votes(int target) {
        needSeat(target);
        needDay();
        return ballots.keySet().stream().filter(seat -> ballots.get(seat) == target)
            .mapToInt(seat -> dead.containsKey(seat) ? 1 : roleNow(seat).weight()).sum();
    }

    int dusk() {
        needDay();
        history.add(new Event("dusk", -1, -1));
        int exile = -1;
        for (int seat : livingSeats()) {
            boolean isMost = votes(seat) > 0;
            for (int other : livingSeats()) {
                isMost = isMost && (other == seat || votes(other) < votes(seat));
            }
            if (isMost) {
                exile = seat;
            }
        }
        if (exile >= 0) {
            die(Set.of(exile), 'x');
        }
        look();
        if (winner == '-') {
            number++;
            night = true;
            told.clear();
        }
        return exile;
    }

    boolean isNight() {
        needRunning();
        return night;
    }

    int number() {
        needBegun();
        return number;
    }

    // ---- the living and the dead ----

    boolean isAlive(int seat) {
        needSeat(seat);
        return !dead.containsKey(seat);
    }

    int living(char side) {
        if ("vwl*".indexOf(side) < 0) {
            throw new IllegalArgumentException();
        }
        return (int) livingSeats().stream().filter(seat -> side == '*' || roleNow(seat).side() == side).count();
    }

    char death(int seat) {
        needSeat(seat);
        return dead.getOrDefault(seat, '-');
    }

    int roleOf(int seat) {
        needSeat(seat);
        return roleNow.get(seat);
    }

    int dealt(int role) {
        needRole(role);
        return (int) deal.stream().filter(each -> each == role).count();
    }

    boolean isSilenced(int seat) {
        needSeat(seat);
        needDay();
        return silenced.contains(seat);
    }

    boolean hasGhostVote(int seat) {
        needSeat(seat);
        if (!dead.containsKey(seat)) {
            throw new UnsupportedOperationException();
        }
        if (!ghostDay.containsKey(seat)) {
            return true;
        }
        return winner == '-' && !night && ghostDay.get(seat) == number;
    }

    char winner() {
        return winner;
    }

    int score(int seat) {
        needSeat(seat);
        if (winner == '-') {
            throw new IllegalStateException();
        }
        return (roleNow(seat).side() == winner ? 2 : 0) + (dead.containsKey(seat) ? 0 : 1);
    }

    // ---- what can be known ----

    private List<List<Integer>> fitting(int seat) {
        if (allWorlds == null) {
            Set<List<Integer>> worlds = new LinkedHashSet<>();
            writeWorlds(new ArrayList<>(), new ArrayList<>(deal), worlds);
            allWorlds = new ArrayList<>(worlds);
        }
        List<List<Integer>> fits = new ArrayList<>();
        for (List<Integer> world : allWorlds) {
            if (fitsDead(world) && (seat < 0 || fitsSeat(seat, world))) {
                fits.add(world);
            }
        }
        return fits;
    }

    private static void writeWorlds(List<Integer> world, List<Integer> left, Set<List<Integer>> worlds) {
        if (left.isEmpty()) {
            worlds.add(new ArrayList<>(world));
            return;
        }
        for (Integer role : new TreeSet<>(left)) {
            world.add(role);
            left.remove(role);
            writeWorlds(world, left, worlds);
            left.add(role);
            world.remove(world.size() - 1);
        }
    }

    private boolean fitsDead(List<Integer> world) {
        return heirGot || dead.keySet().stream().allMatch(seat -> world.get(seat).equals(roleNow.get(seat)));
    }

    private boolean fitsSeat(int seat, List<Integer> world) {
        if (!look.get(world.get(seat)).equals(look.get(deal.get(seat)))) {
            return false;
        }
        for (Sight sight : sights) {
            if (sight.seat() == seat && !fitsSight(sight, world)) {
                return false;
            }
        }
        return true;
    }

    private boolean fitsSight(Sight sight, List<Integer> world) {
        boolean isW = roles.get(world.get(sight.target())).side() == 'w';
        if (roles.get(world.get(sight.seat())).isFool()) {
            isW = !isW;
        }
        if (sight.told() == (isW ? 'w' : 'v')) {
            return true;
        }
        return sight.living().stream()
            .anyMatch(other -> other != sight.seat() && roles.get(world.get(other)).act() == 'd');
    }

    int worlds(int seat) {
        needSeat(seat);
        needBegun();
        return fitting(seat).size();
    }

    int possible(int seat, int other, int role) {
        needSeat(seat);
        needSeat(other);
        needRole(role);
        needBegun();
        return (int) fitting(seat).stream().filter(world -> world.get(other) == role).count();
    }

    char sure(int seat, int other) {
        needSeat(seat);
        needSeat(other);
        needBegun();
        Set<Character> sides = new HashSet<>();
        fitting(seat).forEach(world -> sides.add(roles.get(world.get(other)).side()));
        return sides.size() == 1 ? sides.iterator().next() : '?';
    }

    int known() {
        needBegun();
        return fitting(-1).size();
    }

    int claim(int seat, int other, char side) {
        needTwo(seat, other);
        if ("vwl".indexOf(side) < 0) {
            throw new IllegalArgumentException();
        }
        needRunning();
        if (claims.size() == 30) {
            throw new UnsupportedOperationException();
        }
        claims.add(new Claim(seat, other, side));
        return claims.size() - 1;
    }

    char holds(int seat, int claim) {
        needSeat(seat);
        if (claim < 0 || claim >= claims.size()) {
            throw new IndexOutOfBoundsException();
        }
        return holdsIn(fitting(seat), claims.get(claim));
    }

    private char holdsIn(List<List<Integer>> worlds, Claim claim) {
        boolean isSome = worlds.stream().anyMatch(world -> roles.get(world.get(claim.other())).side() == claim.side());
        boolean isAll = worlds.stream().allMatch(world -> roles.get(world.get(claim.other())).side() == claim.side());
        return !isSome ? 'f' : isAll ? 't' : '?';
    }

    int liars(int seat) {
        needSeat(seat);
        Set<Integer> liars = new HashSet<>();
        if (!claims.isEmpty()) {
            List<List<Integer>> worlds = fitting(seat);
            claims.stream().filter(claim -> holdsIn(worlds, claim) == 'f').forEach(claim -> liars.add(claim.seat()));
        }
        return liars.size();
    }

    // ---- histories ----

    private Model goneThrough(int seat, int other) {
        Model model = new Model();
        model.roles.addAll(roles);
        model.look.putAll(look);
        for (int each = 0; each < deal.size(); each++) {
            model.seat(deal.get(each == seat ? other : each == other ? seat : each));
        }
        model.pair = pair;
        model.heirOf.putAll(heirOf);
        model.marked.putAll(markedAtBegin);
        model.begin();
        for (Event event : history) {
            try {
                switch (event.kind()) {
                    case "mark" -> model.mark(event.seat(), event.other());
                    case "act" -> model.act(event.seat(), event.other());
                    case "vote" -> model.vote(event.seat(), event.other());
                    case "dawn" -> model.dawn();
                    default -> model.dusk();
                }
            } catch (IllegalStateException | UnsupportedOperationException e) {
                continue;
            }
        }
        return model;
    }

    char changed(int seat, int other) {
        needTwo(seat, other);
        needBegun();
        return goneThrough(seat, other).winner;
    }

    int alive(int seat, int other) {
        needTwo(seat, other);
        needBegun();
        return goneThrough(seat, other).livingSeats().stream().mapToInt(each -> 1 << each).sum();
    }

    // ---- figures ----

    long checksum() {
        long sum = 7;
        for (int seat = 0; seat < deal.size(); seat++) {
            sum = sum * 31 + roleNow.get(seat) + 10L * death(seat);
        }
        return sum;
    }

    float livingShare() {
        if (deal.isEmpty()) {
            throw new NoSuchElementException();
        }
        return (float) living('*') / (float) deal.size();
    }

    double meanWorlds() {
        needBegun();
        int sum = 0;
        for (int seat = 0; seat < deal.size(); seat++) {
            sum += worlds(seat);
        }
        return (double) sum / (double) deal.size();
    }

    boolean isSound() {
        if (!begun) {
            return true;
        }
        Model same = goneThrough(-1, -1);
        boolean isSame = same.roleNow.equals(roleNow) && same.dead.equals(dead) && same.winner == winner
            && same.number == number && same.sights.equals(sights) && same.usedUp.equals(usedUp);
        for (int seat = 0; seat < deal.size(); seat++) {
            isSame = isSame && (heirGot || fitting(seat).contains(deal));
        }
        return isSame;
    }

    // ---- what is refused ----

    private Role roleNow(int seat) {
        return roles.get(roleNow.get(seat));
    }

    private Set<Integer> livingSeats() {
        Set<Integer> living = new TreeSet<>(roleNow.keySet());
        living.removeAll(dead.keySet());
        return living;
    }

    private void setUpOnly() {
        if (begun) {
            throw new UnsupportedOperationException();
        }
    }

    private void needRole(int role) {
        if (role < 0 || role >= roles.size()) {
            throw new IndexOutOfBoundsException();
        }
    }

    private void needSeat(int seat) {
        if (seat < 0 || seat >= deal.size()) {
            throw new IndexOutOfBoundsException();
        }
    }

    private void needTwo(int seat, int other) {
        needSeat(seat);
        needSeat(other);
        if (seat == other) {
            throw new IllegalArgumentException();
        }
    }

    private void needBegun() {
        if (!begun) {
            throw new IllegalStateException();
        }
    }

    private void needRunning() {
        if (!begun || winner != '-') {
            throw new IllegalStateException();
        }
    }

    private void needDay() {
        needRunning();
        if (night) {
            throw new UnsupportedOperationException();
        }
    }
}
