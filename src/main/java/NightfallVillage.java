import java.util.Arrays;
import java.util.NoSuchElementException;

/**
 * A village in which many have hidden sides. The face looks at the arguments and throws; the classes inside
 * never throw, so that a history can be gone through again with what may not be told left out.
 */
public final class NightfallVillage {
    private static final int MOST_ROLES = 8;
    private static final int MOST_SEATS = 7;
    private static final int LEAST_SEATS = 3;
    private static final int MOST_CLAIMS = 30;
    private static final int MOST_WEIGHT = 2;

    // An object is used for 512 calls, a call tells one thing at most, and each night but the last has its dusk.
    private static final int MOST_TOLD = 512;
    private static final int MOST_NIGHTS = 256;

    private static final int NOBODY = -1;
    private static final char NONE = '-';

    private static final char VILLAGE = 'v';
    private static final char WOLF = 'w';
    private static final char LONE = 'l';
    private static final char ALL_SIDES = '*';
    private static final char NOBODY_WINS = 'n';

    private static final char BLOCK = 'b';
    private static final char TURN = 'r';
    private static final char DRINK = 'd';
    private static final char PROTECT = 'p';
    private static final char SEE = 's';
    private static final char SILENCE = 'q';
    private static final char KILL = 'k';

    private static final char KILLED = 'k';
    private static final char LOVELORN = 'l';
    private static final char HUNTED = 'h';
    private static final char EXILED = 'x';

    private static final char HOLDS_IN_ALL = 't';
    private static final char HOLDS_IN_NONE = 'f';
    private static final char UNSURE = '?';

    private static final int TOLD_MARK = 1;
    private static final int TOLD_ACT = 2;
    private static final int TOLD_DAWN = 3;
    private static final int TOLD_VOTE = 4;
    private static final int TOLD_DUSK = 5;

    private final Roles roles;
    private final Deal deal;
    private final Game game;
    private final Game otherGame;
    private final History history;
    private final Sights sights;
    private final Claims claims;
    private final Worlds fitting;

    public NightfallVillage() {
        roles = new Roles();
        deal = new Deal();
        game = new Game(roles, deal);
        otherGame = new Game(roles, deal);
        history = new History();
        sights = new Sights();
        claims = new Claims();
        fitting = new Worlds(roles, deal, game.folk, sights);
    }

    // ---- roles and seats ----

    public int role(char side, char act, int weight, boolean isOnce, boolean isFool, boolean isHunter)
        throws IllegalArgumentException, UnsupportedOperationException, IllegalStateException {
        if (!isSide(side) || !isAct(act) || weight < 1 || weight > MOST_WEIGHT) {
            throw new IllegalArgumentException("no such side, act or weight");
        }
        requireNotBegun();
        if (roles.count >= MOST_ROLES) {
            throw new IllegalStateException("there are 8 roles");
        }
        return roles.add(side, act, weight, isOnce, isFool, isHunter);
    }

    public int seems(int role, int other) throws IndexOutOfBoundsException, UnsupportedOperationException {
        requireRole(role);
        requireRole(other);
        requireNotBegun();
        return roles.disguise(role, other);
    }

    public int seat(int role) throws IndexOutOfBoundsException, UnsupportedOperationException, IllegalStateException {
        requireRole(role);
        requireNotBegun();
        if (deal.seats >= MOST_SEATS) {
            throw new IllegalStateException("there are 7 seats");
        }
        int seat = deal.add(role);
        game.open(NOBODY, NOBODY);
        return seat;
    }

    public boolean lovers(int seat, int other)
        throws IndexOutOfBoundsException, IllegalArgumentException, UnsupportedOperationException {
        requireTwoSeats(seat, other);
        requireNotBegun();
        return deal.pair(seat, other);
    }

    public int mark(int seat, int other)
        throws IndexOutOfBoundsException, IllegalArgumentException, UnsupportedOperationException {
        requireTwoSeats(seat, other);
        if (history.isFull() || !game.mayMark(seat)) {
            throw new UnsupportedOperationException("the seat is dead, or the game is over");
        }
        if (game.hasBegun) {
            history.add(TOLD_MARK, seat, other);
        } else {
            deal.keepMark(seat, other);
        }
        return game.folk.putMark(seat, other);
    }

    public int heir(int seat, int other)
        throws IndexOutOfBoundsException, IllegalArgumentException, UnsupportedOperationException {
        requireTwoSeats(seat, other);
        requireNotBegun();
        return deal.bequeath(seat, other);
    }

    public int begin() throws UnsupportedOperationException, IllegalStateException {
        requireNotBegun();
        if (deal.seats < LEAST_SEATS) {
            throw new IllegalStateException("there are fewer than 3 seats");
        }
        game.open(NOBODY, NOBODY);
        game.start();
        return deal.seats;
    }

    // ---- nights and days ----

    public boolean act(int seat, int target)
        throws IndexOutOfBoundsException, IllegalStateException, UnsupportedOperationException {
        requireSeat(seat);
        requireSeat(target);
        requireRunning();
        if (history.isFull() || !game.mayAct(seat, target)) {
            throw new UnsupportedOperationException("this seat may not act so now");
        }
        history.add(TOLD_ACT, seat, target);
        return game.night.aim(seat, target);
    }

    public int dawn() throws IllegalStateException, UnsupportedOperationException {
        requireRunning();
        if (history.isFull() || !game.isNight) {
            throw new UnsupportedOperationException("it is no night");
        }
        history.add(TOLD_DAWN, NOBODY, NOBODY);
        int livingBefore = game.folk.livingBits();
        int deaths = game.endNight();
        sights.add(game.night, livingBefore);
        return deaths;
    }

    public boolean didAct(int seat) throws IndexOutOfBoundsException, NoSuchElementException {
        requireSeat(seat);
        if (sights.nights == 0) {
            throw new NoSuchElementException("no night is over");
        }
        return game.night.wasDone(seat);
    }

    public char told(int seat, int night) throws IndexOutOfBoundsException, NoSuchElementException {
        requireSeat(seat);
        requireNightOver(night);
        return sights.tellingTo(seat, night);
    }

    public int seen(int seat, int night) throws IndexOutOfBoundsException, NoSuchElementException {
        requireSeat(seat);
        requireNightOver(night);
        return sights.seatShownTo(seat, night);
    }

    public boolean vote(int seat, int target)
        throws IndexOutOfBoundsException, IllegalStateException, UnsupportedOperationException {
        requireSeat(seat);
        requireSeat(target);
        requireRunning();
        if (history.isFull() || !game.mayVote(seat, target)) {
            throw new UnsupportedOperationException("this seat may not vote so now");
        }
        history.add(TOLD_VOTE, seat, target);
        return game.castVote(seat, target);
    }

    public int votes(int target)
        throws IndexOutOfBoundsException, IllegalStateException, UnsupportedOperationException {
        requireSeat(target);
        requireRunning();
        requireDay();
        return game.day.sumFor(target, game.folk);
    }

    public int dusk() throws IllegalStateException, UnsupportedOperationException {
        requireRunning();
        requireDay();
        if (history.isFull()) {
            throw new UnsupportedOperationException("no more can be told");
        }
        history.add(TOLD_DUSK, NOBODY, NOBODY);
        return game.endDay();
    }

    public boolean isNight() throws IllegalStateException {
        requireRunning();
        return game.isNight;
    }

    public int number() throws IllegalStateException {
        requireBegun();
        return game.number;
    }

    // ---- the living and the dead ----

    public boolean isAlive(int seat) throws IndexOutOfBoundsException {
        requireSeat(seat);
        return game.folk.lives(seat);
    }

    public int living(char side) throws IllegalArgumentException {
        if (!isSide(side) && side != ALL_SIDES) {
            throw new IllegalArgumentException("no such side");
        }
        return game.folk.countLiving(side);
    }

    public char death(int seat) throws IndexOutOfBoundsException {
        requireSeat(seat);
        return game.folk.causeOf(seat);
    }

    public int roleOf(int seat) throws IndexOutOfBoundsException {
        requireSeat(seat);
        return game.folk.heldBy(seat);
    }

    public int dealt(int role) throws IndexOutOfBoundsException {
        requireRole(role);
        return deal.countOf(role);
    }

    public boolean isSilenced(int seat)
        throws IndexOutOfBoundsException, IllegalStateException, UnsupportedOperationException {
        requireSeat(seat);
        requireRunning();
        requireDay();
        return game.night.hasSilenced(seat);
    }

    public boolean hasGhostVote(int seat) throws IndexOutOfBoundsException, UnsupportedOperationException {
        requireSeat(seat);
        if (game.folk.lives(seat)) {
            throw new UnsupportedOperationException("the seat lives");
        }
        return game.mayGhostVote(seat);
    }

    public char winner() {
        return game.outcome;
    }

    public int score(int seat) throws IndexOutOfBoundsException, IllegalStateException {
        requireSeat(seat);
        if (game.outcome == NONE) {
            throw new IllegalStateException("the game is not over");
        }
        int forSide = game.folk.sideOf(seat) == game.outcome ? 2 : 0;
        int forLife = game.folk.lives(seat) ? 1 : 0;
        return forSide + forLife;
    }

    // ---- what can be known ----

    public int worlds(int seat) throws IndexOutOfBoundsException, IllegalStateException {
        requireSeat(seat);
        requireBegun();
        return fitting.countFor(seat);
    }

    public int possible(int seat, int other, int role) throws IndexOutOfBoundsException, IllegalStateException {
        requireSeat(seat);
        requireSeat(other);
        requireRole(role);
        requireBegun();
        fitting.countFor(seat);
        return fitting.countWithRole(other, role);
    }

    public char sure(int seat, int other) throws IndexOutOfBoundsException, IllegalStateException {
        requireSeat(seat);
        requireSeat(other);
        requireBegun();
        fitting.countFor(seat);
        return fitting.sureSide(other);
    }

    public int known() throws IllegalStateException {
        requireBegun();
        return fitting.countFor(NOBODY);
    }

    public int claim(int seat, int other, char side)
        throws IndexOutOfBoundsException, IllegalArgumentException, IllegalStateException,
        UnsupportedOperationException {
        requireTwoSeats(seat, other);
        if (!isSide(side)) {
            throw new IllegalArgumentException("no such side");
        }
        requireRunning();
        if (claims.count >= MOST_CLAIMS) {
            throw new UnsupportedOperationException("there are 30 claims");
        }
        return claims.add(seat, other, side);
    }

    public char holds(int seat, int claim) throws IndexOutOfBoundsException {
        requireSeat(seat);
        if (claim < 0 || claim >= claims.count) {
            throw new IndexOutOfBoundsException("no such claim");
        }
        fitting.countFor(seat);
        return claims.judge(claim, fitting);
    }

    public int liars(int seat) throws IndexOutOfBoundsException {
        requireSeat(seat);
        if (claims.count == 0) {
            return 0;
        }
        fitting.countFor(seat);
        return claims.countLiars(fitting);
    }

    // ---- histories ----

    public char changed(int seat, int other)
        throws IndexOutOfBoundsException, IllegalArgumentException, IllegalStateException {
        requireTwoSeats(seat, other);
        requireBegun();
        otherGame.goThrough(history, seat, other);
        return otherGame.outcome;
    }

    public int alive(int seat, int other)
        throws IndexOutOfBoundsException, IllegalArgumentException, IllegalStateException {
        requireTwoSeats(seat, other);
        requireBegun();
        otherGame.goThrough(history, seat, other);
        return otherGame.folk.livingBits();
    }

    // ---- figures ----

    public long checksum() {
        long sum = 7;
        for (int seat = 0; seat < deal.seats; seat++) {
            sum = 31 * sum + game.folk.heldBy(seat) + 10 * game.folk.causeOf(seat);
        }
        return sum;
    }

    public float livingShare() throws NoSuchElementException {
        if (deal.seats == 0) {
            throw new NoSuchElementException("there are no seats");
        }
        return (float) game.folk.countLiving(ALL_SIDES) / (float) deal.seats;
    }

    public double meanWorlds() throws IllegalStateException {
        if (!game.hasBegun || deal.seats == 0) {
            throw new IllegalStateException("the game has not begun");
        }
        int sum = 0;
        for (int seat = 0; seat < deal.seats; seat++) {
            sum += fitting.countFor(seat);
        }
        return (double) sum / (double) deal.seats;
    }

    public boolean isSound() {
        if (!game.hasBegun) {
            return true;
        }
        otherGame.goThrough(history, NOBODY, NOBODY);
        return game.isLike(otherGame) && (game.folk.hasInherited || fitting.fitsAsItIs());
    }

    // ---- what the face refuses ----

    private static boolean isSide(char side) {
        return side == VILLAGE || side == WOLF || side == LONE;
    }

    private static boolean isAct(char act) {
        return act == NONE || act == BLOCK || act == TURN || act == DRINK
            || act == PROTECT || act == SEE || act == SILENCE || act == KILL;
    }

    private void requireRole(int role) {
        if (!roles.has(role)) {
            throw new IndexOutOfBoundsException("no such role");
        }
    }

    private void requireSeat(int seat) {
        if (!deal.has(seat)) {
            throw new IndexOutOfBoundsException("no such seat");
        }
    }

    private void requireTwoSeats(int seat, int other) {
        requireSeat(seat);
        requireSeat(other);
        if (seat == other) {
            throw new IllegalArgumentException("both seats are the same");
        }
    }

    private void requireNotBegun() {
        if (game.hasBegun) {
            throw new UnsupportedOperationException("the game has begun");
        }
    }

    private void requireBegun() {
        if (!game.hasBegun) {
            throw new IllegalStateException("the game has not begun");
        }
    }

    private void requireRunning() {
        if (!game.isRunning()) {
            throw new IllegalStateException("the game has not begun, or is over");
        }
    }

    private void requireDay() {
        if (game.isNight) {
            throw new UnsupportedOperationException("it is no day");
        }
    }

    private void requireNightOver(int night) {
        if (!sights.isOver(night)) {
            throw new NoSuchElementException("this night is not over, or was not");
        }
    }

    /** The roles as data. */
    private static final class Roles {
        private final char[] sides = new char[MOST_ROLES];
        private final char[] acts = new char[MOST_ROLES];
        private final int[] weights = new int[MOST_ROLES];
        private final boolean[] once = new boolean[MOST_ROLES];
        private final boolean[] fools = new boolean[MOST_ROLES];
        private final boolean[] hunters = new boolean[MOST_ROLES];
        private final int[] looks = new int[MOST_ROLES];
        private int count;

        boolean has(int role) {
            return role >= 0 && role < count;
        }

        int add(char side, char act, int weight, boolean isOnce, boolean isFool, boolean isHunter) {
            int role = count;
            if (role >= MOST_ROLES) {
                return NOBODY;
            }
            sides[role] = side;
            acts[role] = act;
            weights[role] = weight;
            once[role] = isOnce;
            fools[role] = isFool;
            hunters[role] = isHunter;
            looks[role] = role;
            count++;
            return role;
        }

        int disguise(int role, int look) {
            if (!has(role)) {
                return NOBODY;
            }
            int before = looks[role];
            looks[role] = look;
            return before;
        }

        char sideOf(int role) {
            return has(role) ? sides[role] : NONE;
        }

        char actOf(int role) {
            return has(role) ? acts[role] : NONE;
        }

        int weightOf(int role) {
            return has(role) ? weights[role] : 0;
        }

        boolean actsOnce(int role) {
            return has(role) && once[role];
        }

        boolean isFool(int role) {
            return has(role) && fools[role];
        }

        boolean isHunter(int role) {
            return has(role) && hunters[role];
        }

        int lookOf(int role) {
            return has(role) ? looks[role] : NOBODY;
        }
    }

    /** What is told ahead of the first night; it stays as it is then. */
    private static final class Deal {
        private final int[] dealtRoles = new int[MOST_SEATS];
        private final int[] forebears = new int[MOST_SEATS];
        private final int[] marks = new int[MOST_SEATS];
        private int seats;
        private int lover = NOBODY;
        private int otherLover = NOBODY;

        boolean has(int seat) {
            return seat >= 0 && seat < seats;
        }

        int add(int role) {
            int seat = seats;
            if (seat >= MOST_SEATS) {
                return NOBODY;
            }
            dealtRoles[seat] = role;
            forebears[seat] = NOBODY;
            marks[seat] = NOBODY;
            seats++;
            return seat;
        }

        boolean pair(int seat, int other) {
            boolean wasPair = lover != NOBODY;
            lover = seat;
            otherLover = other;
            return wasPair;
        }

        void keepMark(int seat, int other) {
            if (has(seat)) {
                marks[seat] = other;
            }
        }

        int bequeath(int seat, int forebear) {
            if (!has(seat)) {
                return NOBODY;
            }
            int before = forebears[seat];
            forebears[seat] = forebear;
            return before;
        }

        int dealtTo(int seat) {
            return has(seat) ? dealtRoles[seat] : NOBODY;
        }

        int markOf(int seat) {
            return has(seat) ? marks[seat] : NOBODY;
        }

        boolean isHeir(int seat, int forebear) {
            return has(seat) && forebears[seat] == forebear;
        }

        int loverOf(int seat) {
            if (seat == lover) {
                return otherLover;
            }
            return seat == otherLover ? lover : NOBODY;
        }

        int countOf(int role) {
            int count = 0;
            for (int seat = 0; seat < seats; seat++) {
                if (dealtRoles[seat] == role) {
                    count++;
                }
            }
            return count;
        }
    }

    /** Who has which role by now, who lives, and what deaths lead to. */
    private static final class Folk {
        private final Roles roles;
        private final Deal deal;
        private final int[] held = new int[MOST_SEATS];
        private final boolean[] usedUp = new boolean[MOST_SEATS];
        private final char[] causes = new char[MOST_SEATS];
        private final int[] marks = new int[MOST_SEATS];
        private final int[] dying = new int[MOST_SEATS];
        private int dyingCount;
        private boolean hasInherited;

        Folk(Roles roles, Deal deal) {
            this.roles = roles;
            this.deal = deal;
        }

        void sitDown(int seat, int other) {
            for (int each = 0; each < MOST_SEATS; each++) {
                held[each] = deal.dealtTo(each);
                usedUp[each] = false;
                causes[each] = NONE;
                marks[each] = deal.markOf(each);
            }
            dyingCount = 0;
            hasInherited = false;
            if (deal.has(seat) && deal.has(other)) {
                held[seat] = deal.dealtTo(other);
                held[other] = deal.dealtTo(seat);
            }
        }

        int heldBy(int seat) {
            return deal.has(seat) ? held[seat] : NOBODY;
        }

        boolean lives(int seat) {
            return deal.has(seat) && causes[seat] == NONE;
        }

        char causeOf(int seat) {
            return deal.has(seat) ? causes[seat] : NONE;
        }

        char sideOf(int seat) {
            return roles.sideOf(heldBy(seat));
        }

        char actOf(int seat) {
            return roles.actOf(heldBy(seat));
        }

        boolean isFool(int seat) {
            return roles.isFool(heldBy(seat));
        }

        boolean canAct(int seat) {
            return lives(seat) && actOf(seat) != NONE && !usedUp[seat];
        }

        void useUp(int seat) {
            if (deal.has(seat) && roles.actsOnce(held[seat])) {
                usedUp[seat] = true;
            }
        }

        int voteWeight(int seat) {
            return lives(seat) ? roles.weightOf(held[seat]) : 1;
        }

        int putMark(int seat, int other) {
            if (!deal.has(seat)) {
                return NOBODY;
            }
            int before = marks[seat];
            marks[seat] = other;
            return before;
        }

        int countLiving(char side) {
            int count = 0;
            for (int seat = 0; seat < deal.seats; seat++) {
                if (lives(seat) && (side == ALL_SIDES || sideOf(seat) == side)) {
                    count++;
                }
            }
            return count;
        }

        int livingBits() {
            int bits = 0;
            for (int seat = 0; seat < deal.seats; seat++) {
                if (lives(seat)) {
                    bits |= 1 << seat;
                }
            }
            return bits;
        }

        void strike(int seat, char cause) {
            if (lives(seat) && dyingCount < MOST_SEATS) {
                causes[seat] = cause;
                dying[dyingCount] = seat;
                dyingCount++;
            }
        }

        /** Those whom a death leads to are dead at once, but what they lead to waits behind all earlier ones. */
        int followDeaths() {
            int next = 0;
            while (next < dyingCount && next < MOST_SEATS) {
                followDeath(dying[next]);
                next++;
            }
            dyingCount = 0;
            return next;
        }

        private void followDeath(int dead) {
            if (!deal.has(dead)) {
                return;
            }
            strike(deal.loverOf(dead), LOVELORN);
            if (roles.isHunter(held[dead])) {
                strike(marks[dead], HUNTED);
            }
            for (int seat = 0; seat < deal.seats; seat++) {
                if (lives(seat) && deal.isHeir(seat, dead)) {
                    held[seat] = held[dead];
                    usedUp[seat] = usedUp[dead];
                    hasInherited = true;
                }
            }
        }

        char judge() {
            int all = countLiving(ALL_SIDES);
            int wolves = countLiving(WOLF);
            int loners = countLiving(LONE);
            if (all == 0) {
                return NOBODY_WINS;
            }
            if (all == 1 && loners == 1) {
                return LONE;
            }
            if (wolves == 0 && loners == 0) {
                return VILLAGE;
            }
            return wolves >= all - wolves ? WOLF : NONE;
        }

        boolean isLike(Folk other) {
            for (int seat = 0; seat < MOST_SEATS; seat++) {
                if (held[seat] != other.held[seat] || usedUp[seat] != other.usedUp[seat]
                    || causes[seat] != other.causes[seat] || marks[seat] != other.marks[seat]) {
                    return false;
                }
            }
            return hasInherited == other.hasInherited;
        }
    }

    /** The targets told in a night, and what comes of them at dawn; that is kept until the next dawn. */
    private static final class Night {
        private static final int OPEN = 0;
        private static final int STANDS = 1;
        private static final int FAILS = 2;

        private final int[] targets = new int[MOST_SEATS];
        private final int[] aims = new int[MOST_SEATS];
        private final char[] acts = new char[MOST_SEATS];
        private final int[] blocks = new int[MOST_SEATS];
        private final boolean[] blocked = new boolean[MOST_SEATS];
        private final boolean[] drunk = new boolean[MOST_SEATS];
        private final boolean[] guarded = new boolean[MOST_SEATS];
        private final boolean[] attacked = new boolean[MOST_SEATS];
        private final boolean[] silenced = new boolean[MOST_SEATS];
        private final boolean[] done = new boolean[MOST_SEATS];
        private final char[] tellings = new char[MOST_SEATS];

        void forgetTargets() {
            Arrays.fill(targets, NOBODY);
        }

        boolean aim(int seat, int target) {
            if (!isRow(seat) || !isRow(target)) {
                return false;
            }
            boolean wasTold = targets[seat] != NOBODY;
            targets[seat] = target;
            return wasTold;
        }

        boolean wasDone(int seat) {
            return isRow(seat) && done[seat];
        }

        boolean hasSilenced(int seat) {
            return isRow(seat) && silenced[seat];
        }

        boolean dooms(int seat) {
            return isRow(seat) && attacked[seat] && !guarded[seat];
        }

        void gather(Folk folk) {
            for (int seat = 0; seat < MOST_SEATS; seat++) {
                acts[seat] = isRow(targets[seat]) ? folk.actOf(seat) : NONE;
                aims[seat] = targets[seat];
                blocks[seat] = OPEN;
                blocked[seat] = false;
                drunk[seat] = false;
                guarded[seat] = false;
                attacked[seat] = false;
                silenced[seat] = false;
                done[seat] = false;
                tellings[seat] = NONE;
            }
        }

        void settleBlocks() {
            // A round that settles none is the last one, so there are no more rounds of use than seats.
            for (int round = 0; round < MOST_SEATS; round++) {
                for (int seat = 0; seat < MOST_SEATS; seat++) {
                    if (acts[seat] == BLOCK && blocks[seat] == OPEN) {
                        blocks[seat] = settle(seat);
                    }
                }
            }
            for (int seat = 0; seat < MOST_SEATS; seat++) {
                int target = targets[seat];
                if (acts[seat] == BLOCK && blocks[seat] == STANDS && isRow(target)) {
                    blocked[target] = true;
                }
            }
        }

        private int settle(int blocker) {
            boolean isOpen = false;
            for (int seat = 0; seat < MOST_SEATS; seat++) {
                if (acts[seat] == BLOCK && targets[seat] == blocker) {
                    if (blocks[seat] == STANDS) {
                        return FAILS;
                    }
                    isOpen = isOpen || blocks[seat] == OPEN;
                }
            }
            return isOpen ? OPEN : STANDS;
        }

        void turnActs() {
            // From the highest number down, so that the lowest one turns last.
            for (int seat = MOST_SEATS - 1; seat >= 0; seat--) {
                if (isFree(seat, TURN) && isTurnable(aims[seat])) {
                    aims[aims[seat]] = seat;
                }
            }
        }

        private boolean isTurnable(int seat) {
            return isRow(seat) && acts[seat] != NONE && acts[seat] != BLOCK && acts[seat] != TURN;
        }

        void serveDrink() {
            for (int seat = 0; seat < MOST_SEATS; seat++) {
                if (isFree(seat, DRINK)) {
                    drunk[aims[seat]] = true;
                }
            }
        }

        void perform(Folk folk) {
            for (int seat = 0; seat < MOST_SEATS; seat++) {
                if (acts[seat] != NONE && !blocked[seat]) {
                    performOne(seat, folk);
                    folk.useUp(seat);
                }
            }
        }

        private void performOne(int seat, Folk folk) {
            boolean isSober = !drunk[seat];
            done[seat] = true;
            if (isFree(seat, BLOCK)) {
                done[seat] = blocks[seat] == STANDS;
            } else if (isFree(seat, PROTECT)) {
                done[seat] = isSober;
                guarded[aims[seat]] = guarded[aims[seat]] || isSober;
            } else if (isFree(seat, KILL)) {
                done[seat] = isSober;
                attacked[aims[seat]] = attacked[aims[seat]] || isSober;
            } else if (isFree(seat, SILENCE)) {
                silenced[aims[seat]] = true;
            } else if (isFree(seat, SEE)) {
                boolean isWolf = folk.sideOf(aims[seat]) == WOLF;
                boolean isTurnedRound = folk.isFool(seat) != drunk[seat];
                tellings[seat] = isWolf != isTurnedRound ? WOLF : VILLAGE;
            }
        }

        private boolean isFree(int seat, char act) {
            return acts[seat] == act && !blocked[seat] && isRow(aims[seat]);
        }

        private static boolean isRow(int seat) {
            return seat >= 0 && seat < MOST_SEATS;
        }
    }

    /** The votes of a day, and on which day the dead have voted. */
    private static final class Day {
        private final int[] ballots = new int[MOST_SEATS];
        private final int[] ghostDays = new int[MOST_SEATS];

        void forgetAll() {
            Arrays.fill(ballots, NOBODY);
            Arrays.fill(ghostDays, NOBODY);
        }

        void forgetBallots() {
            Arrays.fill(ballots, NOBODY);
        }

        boolean hasGhostDay(int seat) {
            return seat >= 0 && seat < MOST_SEATS && ghostDays[seat] != NOBODY;
        }

        boolean isGhostDay(int seat, int number) {
            return seat >= 0 && seat < MOST_SEATS && ghostDays[seat] == number;
        }

        void spendGhostVote(int seat, int number) {
            if (seat >= 0 && seat < MOST_SEATS) {
                ghostDays[seat] = number;
            }
        }

        boolean cast(int seat, int target) {
            if (seat < 0 || seat >= MOST_SEATS) {
                return false;
            }
            boolean hadVoted = ballots[seat] != NOBODY;
            ballots[seat] = target;
            return hadVoted;
        }

        int sumFor(int target, Folk folk) {
            int sum = 0;
            for (int seat = 0; seat < MOST_SEATS; seat++) {
                if (ballots[seat] == target) {
                    sum += folk.voteWeight(seat);
                }
            }
            return sum;
        }

        int exiled(Folk folk) {
            int most = 0;
            int exile = NOBODY;
            for (int seat = 0; seat < MOST_SEATS; seat++) {
                int sum = sumFor(seat, folk);
                if (sum > most) {
                    most = sum;
                    exile = seat;
                } else if (sum == most) {
                    exile = NOBODY;
                }
            }
            return exile;
        }
    }

    /** A game from its deal on: the one that is, or the one that would be with two roles changed. */
    private static final class Game {
        private final Folk folk;
        private final Night night;
        private final Day day;
        private boolean hasBegun;
        private boolean isNight;
        private int number;
        private char outcome = NONE;

        Game(Roles roles, Deal deal) {
            folk = new Folk(roles, deal);
            night = new Night();
            day = new Day();
        }

        void open(int seat, int other) {
            folk.sitDown(seat, other);
            night.forgetTargets();
            day.forgetAll();
            hasBegun = false;
            isNight = false;
            number = 0;
            outcome = NONE;
        }

        void start() {
            hasBegun = true;
            isNight = true;
        }

        boolean isRunning() {
            return hasBegun && outcome == NONE;
        }

        boolean mayMark(int seat) {
            return outcome == NONE && folk.lives(seat);
        }

        boolean mayAct(int seat, int target) {
            return isRunning() && isNight && seat != target && folk.canAct(seat) && folk.lives(target);
        }

        boolean mayVote(int seat, int target) {
            return isRunning() && !isNight && folk.lives(target) && !night.hasSilenced(seat)
                && (folk.lives(seat) || mayGhostVote(seat));
        }

        boolean mayGhostVote(int seat) {
            boolean isToday = isRunning() && !isNight && day.isGhostDay(seat, number);
            return isToday || !day.hasGhostDay(seat);
        }

        boolean castVote(int seat, int target) {
            if (!folk.lives(seat)) {
                day.spendGhostVote(seat, number);
            }
            return day.cast(seat, target);
        }

        int endNight() {
            night.gather(folk);
            night.settleBlocks();
            night.turnActs();
            night.serveDrink();
            night.perform(folk);
            for (int seat = 0; seat < MOST_SEATS; seat++) {
                if (night.dooms(seat)) {
                    folk.strike(seat, KILLED);
                }
            }
            int deaths = folk.followDeaths();
            isNight = false;
            day.forgetBallots();
            outcome = folk.judge();
            return deaths;
        }

        int endDay() {
            int exile = day.exiled(folk);
            folk.strike(exile, EXILED);
            folk.followDeaths();
            outcome = folk.judge();
            if (outcome == NONE) {
                number++;
                isNight = true;
                night.forgetTargets();
            }
            return exile;
        }

        void goThrough(History history, int seat, int other) {
            open(seat, other);
            start();
            for (int i = 0; i < history.length && outcome == NONE; i++) {
                int kind = history.kindAt(i);
                int teller = history.seatAt(i);
                int target = history.otherAt(i);
                if (kind == TOLD_MARK && mayMark(teller)) {
                    folk.putMark(teller, target);
                } else if (kind == TOLD_ACT && mayAct(teller, target)) {
                    night.aim(teller, target);
                } else if (kind == TOLD_VOTE && mayVote(teller, target)) {
                    castVote(teller, target);
                } else if (kind == TOLD_DAWN && isNight) {
                    endNight();
                } else if (kind == TOLD_DUSK && !isNight) {
                    endDay();
                }
            }
        }

        boolean isLike(Game other) {
            return folk.isLike(other.folk) && isNight == other.isNight && number == other.number
                && outcome == other.outcome;
        }
    }

    /** All that was told in the game, in order: also targets and votes that later ones replaced. */
    private static final class History {
        private static final int SEAT_BITS = 4;
        private static final int SEAT_MASK = 15;

        private final int[] entries = new int[MOST_TOLD];
        private int length;

        boolean isFull() {
            return length >= MOST_TOLD;
        }

        void add(int kind, int seat, int other) {
            if (!isFull()) {
                entries[length] = (kind << (2 * SEAT_BITS)) | ((seat + 1) << SEAT_BITS) | (other + 1);
                length++;
            }
        }

        int kindAt(int index) {
            return entryAt(index) >> (2 * SEAT_BITS);
        }

        int seatAt(int index) {
            return ((entryAt(index) >> SEAT_BITS) & SEAT_MASK) - 1;
        }

        int otherAt(int index) {
            return (entryAt(index) & SEAT_MASK) - 1;
        }

        private int entryAt(int index) {
            return index >= 0 && index < length ? entries[index] : 0;
        }
    }

    /** What each seat was told in the nights that are over. */
    private static final class Sights {
        private final char[] tellings = new char[MOST_NIGHTS * MOST_SEATS];
        private final int[] shown = new int[MOST_NIGHTS * MOST_SEATS];
        private final int[] livingAsTold = new int[2 * MOST_SEATS * MOST_SEATS];
        private int nights;

        boolean isOver(int night) {
            return night >= 0 && night < nights && night < MOST_NIGHTS;
        }

        void add(Night night, int livingBefore) {
            if (nights >= MOST_NIGHTS) {
                return;
            }
            for (int seat = 0; seat < MOST_SEATS; seat++) {
                int place = nights * MOST_SEATS + seat;
                char telling = night.tellings[seat];
                int target = telling == NONE ? NOBODY : night.aims[seat];
                tellings[place] = telling;
                shown[place] = target;
                keepLiving(seat, target, telling, livingBefore);
            }
            nights++;
        }

        private void keepLiving(int seat, int target, char telling, int living) {
            int place = placeOf(seat, target, telling);
            if (telling != NONE && place >= 0) {
                livingAsTold[place] = living;
            }
        }

        char tellingTo(int seat, int night) {
            boolean isKept = isOver(night) && seat >= 0 && seat < MOST_SEATS;
            return isKept ? tellings[night * MOST_SEATS + seat] : NONE;
        }

        int seatShownTo(int seat, int night) {
            boolean isKept = isOver(night) && seat >= 0 && seat < MOST_SEATS;
            return isKept ? shown[night * MOST_SEATS + seat] : NOBODY;
        }

        /**
         * Who lived, as bits, at the beginning of the last night in which the seat was told this of the target; 0
         * for none. The living only grow fewer, so what that night asks of a world, no earlier one asks beyond it.
         */
        int livingAsLastTold(int seat, int target, char telling) {
            int place = placeOf(seat, target, telling);
            return place >= 0 ? livingAsTold[place] : 0;
        }

        private static int placeOf(int seat, int target, char telling) {
            if (seat < 0 || seat >= MOST_SEATS || target < 0 || target >= MOST_SEATS) {
                return NOBODY;
            }
            return 2 * (seat * MOST_SEATS + target) + (telling == WOLF ? 1 : 0);
        }
    }

    /** Who claimed what. */
    private static final class Claims {
        private final int[] claimers = new int[MOST_CLAIMS];
        private final int[] subjects = new int[MOST_CLAIMS];
        private final char[] sides = new char[MOST_CLAIMS];
        private int count;

        int add(int seat, int other, char side) {
            int claim = count;
            if (claim >= MOST_CLAIMS) {
                return NOBODY;
            }
            claimers[claim] = seat;
            subjects[claim] = other;
            sides[claim] = side;
            count++;
            return claim;
        }

        char judge(int claim, Worlds counted) {
            if (claim < 0 || claim >= count) {
                return HOLDS_IN_NONE;
            }
            int withSide = counted.countWithSide(subjects[claim], sides[claim]);
            if (withSide == 0) {
                return HOLDS_IN_NONE;
            }
            return withSide == counted.total ? HOLDS_IN_ALL : UNSURE;
        }

        int countLiars(Worlds counted) {
            int liars = 0;
            for (int claim = 0; claim < count; claim++) {
                if (judge(claim, counted) == HOLDS_IN_NONE) {
                    liars |= 1 << claimers[claim];
                }
            }
            return Integer.bitCount(liars);
        }
    }

    /** Counts the worlds that fit: once for a seat, by who has which role in them. */
    private static final class Worlds {
        private final Roles roles;
        private final Deal deal;
        private final Folk folk;
        private final Sights sights;
        private final int[] world = new int[MOST_SEATS];
        private final int[] left = new int[MOST_ROLES];
        private final int[] tallies = new int[MOST_SEATS * MOST_ROLES];
        private int knower = NOBODY;
        private int total;

        Worlds(Roles roles, Deal deal, Folk folk, Sights sights) {
            this.roles = roles;
            this.deal = deal;
            this.folk = folk;
            this.sights = sights;
        }

        int countFor(int seat) {
            knower = seat;
            Arrays.fill(tallies, 0);
            for (int role = 0; role < MOST_ROLES; role++) {
                left[role] = deal.countOf(role);
            }
            total = countFrom(0);
            return total;
        }

        private int countFrom(int seat) {
            if (seat >= deal.seats || seat >= MOST_SEATS) {
                return fitsSights() ? 1 : 0;
            }
            int count = 0;
            for (int role = 0; role < MOST_ROLES; role++) {
                if (left[role] > 0 && mayHold(seat, role)) {
                    count += countWith(seat, role);
                }
            }
            return count;
        }

        private int countWith(int seat, int role) {
            left[role]--;
            world[seat] = role;
            int count = countFrom(seat + 1);
            tallies[seat * MOST_ROLES + role] += count;
            left[role]++;
            return count;
        }

        private boolean mayHold(int seat, int role) {
            if (!folk.hasInherited && !folk.lives(seat) && folk.heldBy(seat) != role) {
                return false;
            }
            return seat != knower || roles.lookOf(role) == roles.lookOf(deal.dealtTo(seat));
        }

        private boolean fitsSights() {
            if (!deal.has(knower)) {
                return true;
            }
            boolean isFool = roles.isFool(world[knower]);
            for (int other = 0; other < deal.seats; other++) {
                boolean isWolf = roles.sideOf(world[other]) == WOLF;
                char wrong = isWolf != isFool ? VILLAGE : WOLF;
                int living = sights.livingAsLastTold(knower, other, wrong);
                if (living != 0 && !hasDrinkerBesideKnower(living)) {
                    return false;
                }
            }
            return true;
        }

        private boolean hasDrinkerBesideKnower(int living) {
            for (int seat = 0; seat < deal.seats; seat++) {
                boolean isLiving = (living >> seat & 1) == 1;
                if (isLiving && seat != knower && roles.actOf(world[seat]) == DRINK) {
                    return true;
                }
            }
            return false;
        }

        boolean fitsAsItIs() {
            for (int seat = 0; seat < deal.seats; seat++) {
                world[seat] = deal.dealtTo(seat);
            }
            for (int seat = 0; seat < deal.seats; seat++) {
                knower = seat;
                if (!fitsRoles() || !fitsSights()) {
                    return false;
                }
            }
            return true;
        }

        private boolean fitsRoles() {
            for (int seat = 0; seat < deal.seats; seat++) {
                if (!mayHold(seat, world[seat])) {
                    return false;
                }
            }
            return true;
        }

        int countWithRole(int seat, int role) {
            return deal.has(seat) && roles.has(role) ? tallies[seat * MOST_ROLES + role] : 0;
        }

        int countWithSide(int seat, char side) {
            int sum = 0;
            for (int role = 0; role < roles.count; role++) {
                if (roles.sideOf(role) == side) {
                    sum += countWithRole(seat, role);
                }
            }
            return sum;
        }

        char sureSide(int seat) {
            if (total == 0) {
                return UNSURE;
            }
            if (countWithSide(seat, VILLAGE) == total) {
                return VILLAGE;
            }
            if (countWithSide(seat, WOLF) == total) {
                return WOLF;
            }
            return countWithSide(seat, LONE) == total ? LONE : UNSURE;
        }
    }
}
