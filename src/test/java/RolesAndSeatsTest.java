/** Promises 1 to 8. */
public final class RolesAndSeatsTest {
    private static final Class<?> INDEX = IndexOutOfBoundsException.class;
    private static final Class<?> ARGUMENT = IllegalArgumentException.class;
    private static final Class<?> STATE = IllegalStateException.class;
    private static final Class<?> UNSUPPORTED = UnsupportedOperationException.class;
    private static final Checks CHECKS = new Checks("RolesAndSeatsTest");

    private RolesAndSeatsTest() {
    }

    public static void main(String[] args) {
        promise1();
        promise2Ordinary();
        promise2Refused();
        promise3();
        promise4();
        promise5();
        promise6();
        promise6Refused();
        promise7();
        promise8();
        CHECKS.end();
    }

    private static NightfallVillage empty() {
        return new NightfallVillage();
    }

    private static NightfallVillage full() {
        return Villages.ofActs("-------");
    }

    private static NightfallVillage eightRoles() {
        NightfallVillage village = full();
        village.role('l', 'q', 2, true, true, true);
        return village;
    }

    private static void promise1() {
        NightfallVillage village = empty();
        CHECKS.is("living of a new one", village.living('*'), 0);
        CHECKS.is("winner of a new one", village.winner(), '-');
        CHECKS.is("checksum of a new one", village.checksum(), 7L);
        CHECKS.is("isSound of a new one", village.isSound(), true);
        CHECKS.is("dealt without roles", Checks.answer(() -> village.dealt(0)), INDEX);
        CHECKS.is("isAlive without seats", Checks.answer(() -> village.isAlive(0)), INDEX);
        CHECKS.is("begin without seats", Checks.answer(village::begin), STATE);
        CHECKS.is("the first role", village.role('v', '-', 1, false, false, false), 0);
        CHECKS.is("the first seat", village.seat(0), 0);
    }

    private static void promise2Ordinary() {
        NightfallVillage village = empty();
        String acts = "-brdpsqk";
        String sides = "vwlvwlvw";
        for (int i = 0; i < 8; i++) {
            int role = village.role(sides.charAt(i), acts.charAt(i), 1 + i % 2, i % 2 == 0, i > 4, i < 4);
            CHECKS.is("role " + i, role, i);
        }
        CHECKS.is("a new role is not dealt", village.dealt(7), 0);
        CHECKS.is("a new role seems itself", village.seems(7, 0), 7);
    }

    private static void promise2Refused() {
        for (char side : new char[] {'-', '*', 'n', 'V', 0, (char) 255}) {
            CHECKS.refuses("role of side " + (int) side, ARGUMENT, RolesAndSeatsTest::empty,
                x -> x.role(side, 'k', 1, false, false, false));
        }
        for (char act : new char[] {'v', 'x', 'B', ' ', 0, (char) 300}) {
            CHECKS.refuses("role of act " + (int) act, ARGUMENT, RolesAndSeatsTest::empty,
                x -> x.role('v', act, 1, false, false, false));
        }
        for (int weight : new int[] {0, 3, -1, Integer.MAX_VALUE, Integer.MIN_VALUE}) {
            CHECKS.refuses("role of weight " + weight, ARGUMENT, RolesAndSeatsTest::empty,
                x -> x.role('v', 'k', weight, false, false, false));
        }
        CHECKS.refuses("a ninth role", STATE, RolesAndSeatsTest::eightRoles,
            x -> x.role('v', 'k', 1, false, false, false));
        CHECKS.refuses("a wrong ninth role", ARGUMENT, RolesAndSeatsTest::eightRoles,
            x -> x.role('v', 'k', 3, false, false, false));
        CHECKS.refuses("role in the game", UNSUPPORTED, Villages::exampleBegun,
            x -> x.role('v', 'k', 1, false, false, false));
        CHECKS.refuses("a wrong role in the game", ARGUMENT, Villages::exampleBegun,
            x -> x.role('x', 'k', 1, false, false, false));
        CHECKS.refuses("role behind the game", UNSUPPORTED, Villages::exampleOver,
            x -> x.role('v', 'k', 1, false, false, false));
        CHECKS.refuses("a ninth role in the game", UNSUPPORTED, () -> {
            NightfallVillage village = eightRoles();
            village.begin();
            return village;
        }, x -> x.role('v', 'k', 1, false, false, false));
    }

    private static void promise3() {
        NightfallVillage village = Villages.ofActs("---s");
        CHECKS.is("seems at first", village.seems(0, 3), 0);
        CHECKS.is("seems again", village.seems(0, 1), 3);
        CHECKS.is("seems itself", village.seems(0, 0), 1);
        CHECKS.is("seems itself before", village.seems(0, 2), 0);
        CHECKS.is("another one is untouched", village.seems(2, 2), 2);
        CHECKS.refuses("seems of -1", INDEX, RolesAndSeatsTest::full, x -> x.seems(-1, 0));
        CHECKS.refuses("seems of 7", INDEX, RolesAndSeatsTest::full, x -> x.seems(7, 0));
        CHECKS.refuses("seems -1", INDEX, RolesAndSeatsTest::full, x -> x.seems(0, -1));
        CHECKS.refuses("seems 7", INDEX, RolesAndSeatsTest::full, x -> x.seems(0, 7));
        CHECKS.refuses("seems in the game", UNSUPPORTED, Villages::exampleBegun, x -> x.seems(0, 1));
        CHECKS.refuses("seems of 9 in the game", INDEX, Villages::exampleBegun, x -> x.seems(9, 1));
        seemsIsOneStep();
    }

    /** Role 0 seems 1, and 1 seems 2: who has 0 takes it for 1, and so has no world with 1 or 2. */
    private static void seemsIsOneStep() {
        NightfallVillage village = Villages.ofActs("---");
        village.seems(0, 1);
        village.seems(1, 2);
        village.begin();
        CHECKS.is("0 takes itself for 1", village.worlds(0), 2);
        CHECKS.is("and is no 1", village.possible(0, 0, 1), 0);
        CHECKS.is("1 takes itself for 2", village.worlds(1), 4);
        CHECKS.is("2 may be 1", village.possible(2, 2, 1), 2);
        CHECKS.is("2 is no 0", village.possible(2, 2, 0), 0);
    }

    private static void promise4() {
        NightfallVillage village = empty();
        village.role('v', '-', 1, false, false, false);
        village.role('w', '-', 1, false, false, false);
        for (int seat = 0; seat < 7; seat++) {
            CHECKS.is("seat " + seat, village.seat(seat % 2), seat);
            CHECKS.is("its role", village.roleOf(seat), seat % 2);
            CHECKS.is("the living", village.living('*'), seat + 1);
        }
        CHECKS.is("dealt 0", village.dealt(0), 4);
        CHECKS.is("dealt 1", village.dealt(1), 3);
        CHECKS.refuses("an eighth seat", STATE, RolesAndSeatsTest::full, x -> x.seat(0));
        CHECKS.refuses("an eighth seat of no role", INDEX, RolesAndSeatsTest::full, x -> x.seat(7));
        CHECKS.refuses("a seat of -1", INDEX, RolesAndSeatsTest::empty, x -> x.seat(-1));
        CHECKS.refuses("a seat of no role", INDEX, RolesAndSeatsTest::empty, x -> x.seat(0));
        CHECKS.refuses("a seat in the game", UNSUPPORTED, Villages::exampleBegun, x -> x.seat(0));
        CHECKS.refuses("a seat of no role in the game", INDEX, Villages::exampleBegun, x -> x.seat(5));
        CHECKS.refuses("an eighth seat in the game", UNSUPPORTED, () -> {
            NightfallVillage begun = full();
            begun.begin();
            return begun;
        }, x -> x.seat(0));
        seatKeepsWhatWasTold();
    }

    private static void seatKeepsWhatWasTold() {
        NightfallVillage village = Villages.ofActs("---");
        village.lovers(0, 1);
        village.mark(0, 2);
        village.heir(1, 2);
        village.seat(0);
        CHECKS.is("a seat keeps the lovers", village.lovers(0, 1), true);
        CHECKS.is("a seat keeps the marks", village.mark(0, 2), 2);
        CHECKS.is("a seat keeps the heirs", village.heir(1, 2), 2);
        CHECKS.is("a new seat has no mark", village.mark(3, 0), -1);
        CHECKS.is("a new seat is no heir", village.heir(3, 0), -1);
    }

    private static void promise5() {
        NightfallVillage village = Villages.ofActs("K---");
        CHECKS.is("the first lovers", village.lovers(0, 1), false);
        CHECKS.is("others in their place", village.lovers(3, 2), true);
        CHECKS.is("and again", village.lovers(1, 2), true);
        village.begin();
        village.act(0, 1);
        CHECKS.is("a lover dies with the other one", village.dawn(), 2);
        CHECKS.is("by love", village.death(2), 'l');
        CHECKS.is("and no lover of old", village.isAlive(3), true);
        CHECKS.refuses("lovers 0 and 7", INDEX, RolesAndSeatsTest::full, x -> x.lovers(0, 7));
        CHECKS.refuses("lovers -1 and 0", INDEX, RolesAndSeatsTest::full, x -> x.lovers(-1, 0));
        CHECKS.refuses("lovers -1 and -1", INDEX, RolesAndSeatsTest::full, x -> x.lovers(-1, -1));
        CHECKS.refuses("lovers 1 and 1", ARGUMENT, RolesAndSeatsTest::full, x -> x.lovers(1, 1));
        CHECKS.refuses("lovers in the game", UNSUPPORTED, Villages::exampleBegun, x -> x.lovers(0, 1));
        CHECKS.refuses("lovers 1 and 1 in the game", ARGUMENT, Villages::exampleBegun, x -> x.lovers(1, 1));
        CHECKS.refuses("lovers 1 and 5 in the game", INDEX, Villages::exampleBegun, x -> x.lovers(1, 5));
        NightfallVillage refused = full();
        Checks.answer(() -> refused.lovers(1, 1));
        CHECKS.is("refused lovers are none", refused.lovers(0, 1), false);
    }

    private static void promise6() {
        NightfallVillage village = Villages.exampleDealt();
        CHECKS.is("the mark of 3", village.mark(3, 1), 0);
        CHECKS.is("the first mark of 0", village.mark(0, 4), -1);
        village.begin();
        CHECKS.is("mark at night", village.mark(3, 4), 1);
        village.dawn();
        CHECKS.is("mark at day", village.mark(3, 0), 4);
        village.vote(0, 3);
        village.dusk();
        CHECKS.is("the last mark counts", village.death(0), 'h');
        CHECKS.is("marks of others than hunters do not", village.death(4), '-');
        NightfallVillage dead = Villages.exampleAtDay();
        CHECKS.is("a dead one may be marked", dead.mark(3, 1), 0);
        CHECKS.is("and was", dead.mark(3, 0), 1);
    }

    private static void promise6Refused() {
        CHECKS.refuses("mark by -1", INDEX, Villages::exampleBegun, x -> x.mark(-1, 0));
        CHECKS.refuses("mark of 5", INDEX, Villages::exampleBegun, x -> x.mark(0, 5));
        CHECKS.refuses("mark of itself", ARGUMENT, Villages::exampleBegun, x -> x.mark(1, 1));
        CHECKS.refuses("mark by a dead one", UNSUPPORTED, Villages::exampleAtDay, x -> x.mark(1, 0));
        CHECKS.refuses("mark of itself by a dead one", ARGUMENT, Villages::exampleAtDay, x -> x.mark(1, 1));
        CHECKS.refuses("mark behind the game", UNSUPPORTED, Villages::exampleOver, x -> x.mark(4, 0));
        NightfallVillage village = Villages.exampleBegun();
        Checks.answer(() -> village.mark(3, 3));
        Checks.answer(() -> village.mark(3, 9));
        CHECKS.is("refused marks do not count", village.mark(3, 1), 0);
    }

    private static void promise7() {
        NightfallVillage village = Villages.ofActs("K-s-");
        CHECKS.is("the first heir", village.heir(3, 1), -1);
        CHECKS.is("the heir of another one", village.heir(3, 2), 1);
        CHECKS.is("a second heir", village.heir(1, 2), -1);
        CHECKS.is("the heir again", village.heir(3, 2), 2);
        village.begin();
        village.act(0, 2);
        village.dawn();
        CHECKS.is("all heirs get the role", village.roleOf(3) * 10 + village.roleOf(1), 22);
        CHECKS.refuses("heir 7", INDEX, RolesAndSeatsTest::full, x -> x.heir(7, 0));
        CHECKS.refuses("heir of -1", INDEX, RolesAndSeatsTest::full, x -> x.heir(0, -1));
        CHECKS.refuses("heir of itself", ARGUMENT, RolesAndSeatsTest::full, x -> x.heir(2, 2));
        CHECKS.refuses("heir in the game", UNSUPPORTED, Villages::exampleBegun, x -> x.heir(0, 1));
        CHECKS.refuses("heir of itself in the game", ARGUMENT, Villages::exampleBegun, x -> x.heir(0, 0));
        CHECKS.refuses("heir of 5 in the game", INDEX, Villages::exampleBegun, x -> x.heir(0, 5));
        NightfallVillage refused = full();
        Checks.answer(() -> refused.heir(2, 2));
        CHECKS.is("a refused heir is none", refused.heir(2, 1), -1);
    }

    private static void promise8() {
        for (int seats = 0; seats <= 7; seats++) {
            String acts = "-------".substring(0, seats);
            Object due = seats < 3 ? STATE : seats;
            CHECKS.is("begin with " + seats, Checks.answer(() -> Villages.ofActs(acts).begin()), due);
        }
        NightfallVillage village = Villages.exampleBegun();
        CHECKS.is("night 0 begins", village.isNight(), true);
        CHECKS.is("its number", village.number(), 0);
        CHECKS.is("no win is looked at yet", Villages.night("---").winner(), '-');
        CHECKS.refuses("begin with 2 seats", STATE, () -> Villages.ofActs("-K"), x -> x.begin());
        CHECKS.refuses("begin in the game", UNSUPPORTED, Villages::exampleAtDay, x -> x.begin());
        CHECKS.refuses("begin behind the game", UNSUPPORTED, Villages::exampleOver, x -> x.begin());
    }
}
