import java.lang.reflect.InvocationTargetException;
import java.lang.reflect.Method;
import java.util.ArrayList;
import java.util.Comparator;
import java.util.List;

/**
 * The numbers that the document names, at them and one beyond: 8 roles, 7 seats, 3 seats to begin, weights 1 and 2,
 * 30 claims, 512 calls; and the answers that stand for nothing and nobody.
 */
public final class NumbersTest {
    private static final Class<?> INDEX = IndexOutOfBoundsException.class;
    private static final Class<?> ARGUMENT = IllegalArgumentException.class;
    private static final Class<?> STATE = IllegalStateException.class;
    private static final Class<?> UNSUPPORTED = UnsupportedOperationException.class;
    private static final Checks CHECKS = new Checks("NumbersTest");
    private static final int CALLS = 512;

    private NumbersTest() {
    }

    public static void main(String[] args) {
        signs();
        eightRoles();
        sevenSeats();
        threeSeats();
        weights();
        thirtyClaims();
        callsOfTargets();
        callsOfMarks();
        callsOfVotes();
        callsOfNights();
        callsOfQuestions();
        callsRefused();
        beyondAllCalls();
        none();
        CHECKS.end();
    }

    // ---- signs, roles, seats, weights, claims ----

    /** Of all characters those alone that the document names are taken. */
    private static void signs() {
        NightfallVillage village = null;
        for (int sign = 0; sign <= Character.MAX_VALUE; sign++) {
            if (sign % 128 == 0) {
                village = Villages.exampleBegun();
            }
            char each = (char) sign;
            NightfallVillage asked = village;
            Object living = Checks.answer(() -> asked.living(each));
            CHECKS.is("living of " + sign, living == ARGUMENT, "vwl*".indexOf(each) < 0);
            Object claim = Checks.answer(() -> asked.claim(0, 1, each));
            CHECKS.is("claim of " + sign, claim == ARGUMENT, "vwl".indexOf(each) < 0);
            NightfallVillage fresh = sign < 256 || sign % 256 < 2 ? new NightfallVillage() : asked;
            Object side = Checks.answer(() -> fresh.role(each, '-', 1, false, false, false));
            CHECKS.is("role of side " + sign, side == ARGUMENT, "vwl".indexOf(each) < 0);
            Object act = Checks.answer(() -> fresh.role('v', each, 1, false, false, false));
            CHECKS.is("role of act " + sign, act == ARGUMENT, "-brdpsqk".indexOf(each) < 0);
        }
    }

    private static void eightRoles() {
        NightfallVillage village = new NightfallVillage();
        for (int role = 0; role < 7; role++) {
            village.role('v', '-', 1, false, false, false);
        }
        CHECKS.is("role 7 is none of seven", Checks.answer(() -> village.seat(7)), INDEX);
        CHECKS.is("the eighth role", village.role('w', 'k', 2, false, false, false), 7);
        CHECKS.is("a ninth", Checks.answer(() -> village.role('w', 'k', 2, false, false, false)), STATE);
        CHECKS.is("the eighth is dealt", village.seat(7), 0);
        CHECKS.is("and another one", village.seat(0), 1);
        village.seat(0);
        village.seat(0);
        CHECKS.is("the eighth seems itself", village.seems(7, 6), 7);
        CHECKS.is("a ninth seems nothing", Checks.answer(() -> village.seems(8, 6)), INDEX);
        CHECKS.is("seems a ninth", Checks.answer(() -> village.seems(6, 8)), INDEX);
        CHECKS.is("the eighth seemed", village.seems(7, 7), 6);
        village.begin();
        village.act(0, 1);
        CHECKS.is("the eighth kills", village.dawn(), 1);
        village.vote(0, 2);
        CHECKS.is("and weighs 2", village.votes(2), 2);
        CHECKS.is("its worlds", village.possible(0, 0, 7), 1);
        CHECKS.is("those of a ninth", Checks.answer(() -> village.possible(0, 0, 8)), INDEX);
        CHECKS.is("dealt", village.dealt(7) * 10 + village.dealt(0), 13);
        CHECKS.is("a ninth is not", Checks.answer(() -> village.dealt(8)), INDEX);
    }

    private static void sevenSeats() {
        NightfallVillage village = Villages.ofActs("-----sK");
        CHECKS.is("an eighth", Checks.answer(() -> village.seat(0)), STATE);
        village.lovers(6, 4);
        CHECKS.is("lover 7", Checks.answer(() -> village.lovers(6, 7)), INDEX);
        village.heir(3, 4);
        CHECKS.is("begins with seven", village.begin(), 7);
        CHECKS.is("the seventh acts", village.act(6, 0), false);
        CHECKS.is("an eighth does not", Checks.answer(() -> village.act(7, 0)), INDEX);
        CHECKS.is("on an eighth", Checks.answer(() -> village.act(6, 7)), INDEX);
        village.act(5, 6);
        CHECKS.is("one dies", village.dawn(), 1);
        CHECKS.is("the sixth is told of the seventh", village.told(5, 0), 'w');
        CHECKS.is("whom it saw", village.seen(5, 0), 6);
        CHECKS.is("the others live", village.alive(1, 2), 126);
        village.vote(6, 6);
        CHECKS.is("the seventh votes", village.votes(6), 1);
        CHECKS.is("and is exiled", village.dusk(), 6);
        CHECKS.is("its lover dies", village.death(4), 'l');
        CHECKS.is("and has an heir", village.roleOf(3), 4);
        CHECKS.is("the village wins", village.winner(), 'v');
    }

    private static void threeSeats() {
        NightfallVillage village = Villages.ofActs("K-");
        CHECKS.is("begin with two", Checks.answer(village::begin), STATE);
        village.seat(1);
        CHECKS.is("begin with three", village.begin(), 3);
        CHECKS.is("and no more", Checks.answer(village::begin), UNSUPPORTED);
        CHECKS.is("no seat more", Checks.answer(() -> village.seat(1)), UNSUPPORTED);
    }

    private static void weights() {
        NightfallVillage village = new NightfallVillage();
        CHECKS.is("0", Checks.answer(() -> village.role('v', '-', 0, false, false, false)), ARGUMENT);
        CHECKS.is("3", Checks.answer(() -> village.role('v', '-', 3, false, false, false)), ARGUMENT);
        CHECKS.is("refused roles are none", village.role('v', '-', 1, false, false, false), 0);
        village.role('v', '-', 2, false, false, false);
        village.role('l', '-', 1, false, false, false);
        for (int role : new int[] {0, 1, 2, 0}) {
            village.seat(role);
        }
        village.begin();
        village.dawn();
        village.vote(0, 2);
        CHECKS.is("a weight of 1", village.votes(2), 1);
        village.vote(1, 2);
        CHECKS.is("and one of 2", village.votes(2), 3);
    }

    private static void thirtyClaims() {
        NightfallVillage village = Villages.night("-------");
        for (int claim = 0; claim < 30; claim++) {
            int seat = claim % 7;
            CHECKS.is("no claim yet", Checks.answer(() -> village.holds(seat, seat + 30)), INDEX);
            CHECKS.is("claim", village.claim(seat, (seat + 1) % 7, claim == 29 ? 'w' : 'v'), claim);
        }
        CHECKS.is("the first", village.holds(0, 0), 't');
        CHECKS.is("the last but one", village.holds(6, 28), 't');
        CHECKS.is("the last", village.holds(0, 29), 'f');
        CHECKS.is("claim 30", Checks.answer(() -> village.holds(0, 30)), INDEX);
        CHECKS.is("the liars", village.liars(0), 1);
        CHECKS.is("a 31st", Checks.answer(() -> village.claim(0, 1, 'l')), UNSUPPORTED);
        CHECKS.is("is none", Checks.answer(() -> village.holds(0, 30)), INDEX);
        CHECKS.is("and makes nobody a liar", village.liars(0), 1);
        CHECKS.is("nor itself", village.holds(0, 0), 't');
        NightfallVillage all = Villages.night("-------");
        for (int claim = 0; claim < 30; claim++) {
            all.claim(claim % 7, (claim + 1) % 7, 'w');
        }
        CHECKS.is("seven liars", all.liars(3), 7);
    }

    // ---- 512 calls ----

    private static void callsOfTargets() {
        NightfallVillage village = Villages.night("K--");
        int calls = 7;
        while (calls < CALLS - 2) {
            village.act(0, 1 + calls % 2);
            calls++;
        }
        CHECKS.is("call 511, a dawn", village.dawn(), 1);
        CHECKS.is("call 512, by the last target", village.death(1 + (calls - 1) % 2), 'k');
        NightfallVillage other = Villages.night("K--");
        for (calls = 7; calls < CALLS - 1; calls++) {
            other.act(0, 1 + calls % 2);
        }
        CHECKS.is("call 512, a dawn", other.dawn(), 1);
        NightfallVillage full = Villages.night("K--");
        for (calls = 7; calls < CALLS - 1; calls++) {
            full.act(0, 1);
        }
        CHECKS.is("call 512, a target", full.act(0, 2), true);
    }

    private static void callsOfMarks() {
        NightfallVillage village = new NightfallVillage();
        village.role('w', 'k', 1, false, false, false);
        village.role('v', '-', 1, false, false, true);
        for (int seat = 0; seat < 4; seat++) {
            village.seat(seat == 0 ? 0 : 1);
        }
        village.begin();
        int calls = 7;
        while (calls < CALLS - 3) {
            CHECKS.is("a mark", village.mark(1, calls % 2 == 0 ? 2 : 3), calls == 7 ? -1 : calls % 2 == 0 ? 3 : 2);
            calls++;
        }
        village.act(0, 1);
        village.dawn();
        CHECKS.is("call 512, all marks gone through again", village.alive(1, 2), calls % 2 == 0 ? 5 : 9);
        NightfallVillage ahead = Villages.ofActs("K--");
        for (calls = 6; calls < CALLS - 4; calls++) {
            ahead.mark(1, 2 * (calls % 2));
        }
        ahead.begin();
        ahead.act(0, 1);
        ahead.dawn();
        CHECKS.is("call 512, marks ahead of the game", ahead.isSound(), true);
    }

    private static void callsOfVotes() {
        NightfallVillage village = Villages.night("K---");
        village.dawn();
        int calls = 10;
        while (calls < CALLS - 2) {
            CHECKS.is("a vote", village.vote(1, calls % 4), calls > 10);
            calls++;
        }
        CHECKS.is("call 511, the votes", village.votes((calls - 1) % 4), 1);
        CHECKS.is("call 512, a dusk", village.dusk(), (calls - 1) % 4);
        NightfallVillage again = Villages.night("K---");
        again.dawn();
        for (calls = 10; calls < CALLS - 2; calls++) {
            again.vote(1, calls % 4);
        }
        int exile = again.dusk();
        CHECKS.is("call 512, all votes gone through again", again.alive(2, 3), 15 & ~(1 << exile));
    }

    /** With one role and three seats there are as many nights as there can be. */
    private static NightfallVillage shortest() {
        NightfallVillage village = new NightfallVillage();
        village.role('l', 's', 1, false, false, false);
        village.seat(0);
        village.seat(0);
        village.seat(0);
        village.begin();
        return village;
    }

    private static void callsOfNights() {
        NightfallVillage village = shortest();
        for (int day = 0; day < 253; day++) {
            Villages.day(village);
        }
        CHECKS.is("call 512, a dawn", village.dawn(), 0);
        NightfallVillage numbers = shortest();
        for (int day = 0; day < 253; day++) {
            Villages.day(numbers);
        }
        CHECKS.is("call 512, the number", numbers.number(), 253);
        NightfallVillage last = shortest();
        for (int day = 0; day < 252; day++) {
            Villages.day(last);
        }
        last.act(0, 2);
        last.dawn();
        CHECKS.is("call 512, what was told in the last night", last.seen(0, 252), 2);
        NightfallVillage sound = shortest();
        for (int day = 0; day < 253; day++) {
            Villages.day(sound);
        }
        CHECKS.is("call 512, sound", sound.isSound(), true);
        NightfallVillage seen = shortest();
        for (int day = 0; day < 101; day++) {
            seen.act(0, 1 + day % 2);
            seen.dawn();
            seen.vote(0, 0);
            seen.vote(1, 1);
            seen.dusk();
        }
        CHECKS.is("call 511, told in the first night", seen.seen(0, 0), 1);
        CHECKS.is("call 512, told in the last but one", seen.seen(0, 99), 2);
    }

    private static void callsOfQuestions() {
        NightfallVillage village = Villages.ofActs("-------");
        for (int role = 0; role < 7; role++) {
            village.seems(role, 0);
        }
        village.begin();
        for (int calls = 22; calls < CALLS - 2; calls++) {
            village.worlds(calls % 7);
        }
        CHECKS.is("call 511", village.meanWorlds(), 5040.0);
        CHECKS.is("call 512", village.possible(6, 5, 4), 720);
    }

    private static void callsRefused() {
        NightfallVillage village = Villages.night("K--");
        for (int calls = 7; calls < CALLS - 3; calls++) {
            Checks.answer(village::dusk);
        }
        village.act(0, 1);
        CHECKS.is("call 511", village.dawn(), 1);
        CHECKS.is("call 512", village.winner(), 'w');
    }

    /** What later calls answer is free, but nothing else than what a call says is ever thrown. */
    private static void beyondAllCalls() {
        List<Method> methods = new ArrayList<>();
        for (Method method : NightfallVillage.class.getDeclaredMethods()) {
            if (java.lang.reflect.Modifier.isPublic(method.getModifiers())) {
                methods.add(method);
            }
        }
        methods.sort(Comparator.comparing(Method::getName));
        long state = 41;
        for (int run = 0; run < 40; run++) {
            NightfallVillage village = run % 2 == 0 ? Villages.exampleBegun() : shortest();
            for (int call = 0; call < 2400; call++) {
                state = state * 6364136223846793005L + 1442695040888963407L;
                boolean isOrdinary = run % 4 < 3 && call % 3 > 0;
                call(village, isOrdinary ? turnOfDay(methods, call) : methods.get((int) (state >>> 33) % methods.size()),
                    state >>> 20);
            }
        }
    }

    private static Method turnOfDay(List<Method> methods, int call) {
        String[] names = {"dawn", "dusk", "act", "mark", "vote"};
        String name = names[call / 3 % 7 == 0 ? 2 + call % 3 : call % 2];
        return methods.stream().filter(each -> each.getName().equals(name)).findFirst().orElseThrow();
    }

    private static void call(NightfallVillage village, Method method, long seed) {
        Object[] arguments = new Object[method.getParameterCount()];
        long state = seed;
        for (int i = 0; i < arguments.length; i++) {
            state = state * 31 + 7 + i;
            Class<?> type = method.getParameterTypes()[i];
            int small = (int) ((state >>> 3) % 9) - 1;
            int number = small == 7 ? Integer.MIN_VALUE : small == 6 ? Integer.MAX_VALUE : small;
            arguments[i] = type == int.class ? (Object) number
                : type == char.class ? (Object) "vwl-ksx*".charAt(small & 7) : (Object) (small % 2 == 0);
        }
        try {
            method.invoke(village, arguments);
        } catch (InvocationTargetException e) {
            boolean isSaid = List.of(method.getExceptionTypes()).contains(e.getCause().getClass());
            CHECKS.is(method.getName() + " throws " + e.getCause(), isSaid, true);
        } catch (IllegalAccessException e) {
            CHECKS.is(method.getName() + " is open", false, true);
        }
    }

    // ---- nothing and nobody ----

    private static void none() {
        NightfallVillage village = Villages.ofActs("Ks---");
        CHECKS.is("no winner ahead of the game", village.winner(), '-');
        CHECKS.is("marked nobody", village.mark(2, 3), -1);
        CHECKS.is("heir of nobody", village.heir(2, 3), -1);
        village.begin();
        CHECKS.is("a mark told at night", village.mark(0, 1), -1);
        village.act(1, 0);
        village.dawn();
        CHECKS.is("told nothing", village.told(0, 0), '-');
        CHECKS.is("seen nobody", village.seen(0, 0), -1);
        CHECKS.is("died by nothing", village.death(0), '-');
        CHECKS.is("no winner", village.winner(), '-');
        CHECKS.is("not sure", village.sure(2, 0), '?');
        village.claim(2, 0, 'w');
        CHECKS.is("a claim open", village.holds(2, 0), '?');
        CHECKS.is("exiled nobody", village.dusk(), -1);
        village.dawn();
        Villages.vote(village, "12", "21");
        CHECKS.is("exiled nobody, by as many", village.dusk(), -1);
        CHECKS.is("would go on", village.changed(0, 1), '-');
        NightfallVillage nobody = Villages.night("KKk", "01", "12", "20");
        nobody.dawn();
        CHECKS.is("nobody won", nobody.winner(), 'n');
        CHECKS.is("nobody would", nobody.changed(0, 1), 'n');
        CHECKS.is("nobody lives", nobody.living('*'), 0);
        CHECKS.is("no share", nobody.livingShare(), 0.0f);
    }
}
