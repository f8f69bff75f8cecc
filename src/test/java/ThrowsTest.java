import java.io.IOException;
import java.nio.file.Files;
import java.nio.file.Path;
import java.util.ArrayList;
import java.util.List;
import java.util.NoSuchElementException;
import java.util.Set;
import java.util.TreeSet;
import java.util.regex.Matcher;
import java.util.regex.Pattern;

/**
 * Each 'Throws' line of the document at each stage of a game, with arguments at both sides of each bound: the call
 * throws the first one listed that applies and changes nothing, or throws nothing if none applies.
 */
public final class ThrowsTest {
    private static final Class<?> INDEX = IndexOutOfBoundsException.class;
    private static final Class<?> ARGUMENT = IllegalArgumentException.class;
    private static final Class<?> STATE = IllegalStateException.class;
    private static final Class<?> UNSUPPORTED = UnsupportedOperationException.class;
    private static final Class<?> NO_ELEMENT = NoSuchElementException.class;
    private static final Checks CHECKS = new Checks("ThrowsTest");
    private static final Set<String> SEEN = new TreeSet<>();

    // A game that has begun has three seats, so these two never apply at once.
    private static final Set<String> NEVER = Set.of("begin UnsupportedOperationException IllegalStateException");

    // Behind so many refused calls a village is asked all parts of a snapshot, and stays below 512 calls.
    private static final int AT_ONCE = 60;

    private final Stage stage;
    private final List<Checks.Use> refused = new ArrayList<>();
    private final StringBuilder names = new StringBuilder();

    private ThrowsTest(Stage stage) {
        this.stage = stage;
    }

    public static void main(String[] args) throws IOException {
        for (Stage stage : Stage.all()) {
            ThrowsTest test = new ThrowsTest(stage);
            test.rolesAndSeats();
            test.begin();
            test.act();
            test.vote();
            test.endings();
            test.oneSeat();
            test.nights();
            test.twoSeats();
            test.possible();
            test.claim();
            test.holds();
            test.figures();
            test.endBatch();
        }
        allHaveCome();
        CHECKS.end();
    }

    // ---- how a call is held against its lines ----

    /** The exceptions that apply, out of pairs of one and whether it does, in the order of the document. */
    private static List<Class<?>> first(Object... lines) {
        List<Class<?>> apply = new ArrayList<>();
        for (int i = 0; i < lines.length; i += 2) {
            if (Boolean.TRUE.equals(lines[i + 1])) {
                apply.add((Class<?>) lines[i]);
            }
        }
        return apply;
    }

    private void due(String call, List<Class<?>> apply, Checks.Use use) {
        note(call.indexOf('(') < 0 ? call : call.substring(0, call.indexOf('(')), apply);
        Class<?> due = apply.isEmpty() ? null : apply.get(0);
        NightfallVillage village = stage.build.make();
        Object got = Checks.answer(() -> use.of(village));
        if (due == null) {
            CHECKS.is(stage.name + ": " + call + " throws", got instanceof Class<?> ? got : null, null);
            return;
        }
        CHECKS.is(stage.name + ": " + call, got, due);
        refused.add(use);
        names.append(' ').append(call);
        if (refused.size() >= AT_ONCE) {
            endBatch();
        }
    }

    private void endBatch() {
        if (refused.isEmpty()) {
            return;
        }
        List<Checks.Use> batch = List.copyOf(refused);
        CHECKS.changesNothing(stage.name + ":" + names, stage.build, village -> {
            batch.forEach(use -> Checks.answer(() -> use.of(village)));
            return null;
        });
        refused.clear();
        names.setLength(0);
    }

    /** Each exception that applied to a call, alone or ahead of another one. */
    private static void note(String method, List<Class<?>> apply) {
        SEEN.add(method + (apply.isEmpty() ? " nothing" : " " + apply.get(0).getSimpleName()));
        for (int i = 1; i < apply.size(); i++) {
            SEEN.add(method + " " + apply.get(0).getSimpleName() + " " + apply.get(i).getSimpleName());
        }
    }

    /** Each exception of the face has come, and each that is listed first ahead of each behind it. */
    private static void allHaveCome() throws IOException {
        Matcher call = Pattern.compile("^    public \\w+ (\\w+)\\([^)]*\\)(?: throws ([^;]*))?;$", Pattern.MULTILINE)
            .matcher(Files.readString(Path.of("../shared/DOC.md")));
        int methods = 0;
        while (call.find()) {
            methods++;
            String[] listed = call.group(2) == null ? new String[0] : call.group(2).split(", ");
            hasCome(call.group(1) + " nothing");
            for (int i = 0; i < listed.length; i++) {
                hasCome(call.group(1) + " " + listed[i]);
                for (int later = i + 1; later < listed.length; later++) {
                    hasCome(call.group(1) + " " + listed[i] + " " + listed[later]);
                }
            }
        }
        CHECKS.is("the number of methods in the document", methods, 39);
    }

    private static void hasCome(String what) {
        CHECKS.is(what + " has come", SEEN.contains(what), !NEVER.contains(what));
    }

    // ---- arguments ----

    private int[] seats() {
        return around(stage.seats);
    }

    private int[] roles() {
        return around(stage.roles);
    }

    /** All from -1 to one beyond the last, and the far ends. */
    private static int[] around(int count) {
        int[] numbers = new int[count + 4];
        for (int i = 0; i < count + 2; i++) {
            numbers[i] = i - 1;
        }
        numbers[count + 2] = Integer.MIN_VALUE;
        numbers[count + 3] = Integer.MAX_VALUE;
        return numbers;
    }

    private boolean noSeat(int... some) {
        boolean isNone = false;
        for (int seat : some) {
            isNone = isNone || seat < 0 || seat >= stage.seats;
        }
        return isNone;
    }

    private boolean noRole(int... some) {
        boolean isNone = false;
        for (int role : some) {
            isNone = isNone || role < 0 || role >= stage.roles;
        }
        return isNone;
    }

    private boolean notRunning() {
        return !stage.begun || stage.over;
    }

    private boolean noDay() {
        return notRunning() || stage.night;
    }

    // ---- the promises ----

    private void rolesAndSeats() {
        for (int weight : new int[] {Integer.MIN_VALUE, -1, 0, 1, 2, 3, Integer.MAX_VALUE}) {
            for (char side : "vwlux-*".toCharArray()) {
                for (char act : "-kbxv".toCharArray()) {
                    boolean isWrong = weight < 1 || weight > 2 || "vwl".indexOf(side) < 0 || "-kb".indexOf(act) < 0;
                    due("role(" + side + act + weight + ")",
                        first(ARGUMENT, isWrong, UNSUPPORTED, stage.begun, STATE, stage.roles == 8),
                        x -> x.role(side, act, weight, true, false, true));
                }
            }
        }
        for (int a : roles()) {
            for (int b : roles()) {
                due("seems(" + a + "," + b + ")", first(INDEX, noRole(a, b), UNSUPPORTED, stage.begun),
                    x -> x.seems(a, b));
            }
            due("seat(" + a + ")", first(INDEX, noRole(a), UNSUPPORTED, stage.begun, STATE, stage.seats == 7),
                x -> x.seat(a));
            due("dealt(" + a + ")", first(INDEX, noRole(a)), x -> x.dealt(a));
        }
        for (int a : seats()) {
            for (int b : seats()) {
                due("lovers(" + a + "," + b + ")",
                    first(INDEX, noSeat(a, b), ARGUMENT, a == b, UNSUPPORTED, stage.begun), x -> x.lovers(a, b));
                due("heir(" + a + "," + b + ")",
                    first(INDEX, noSeat(a, b), ARGUMENT, a == b, UNSUPPORTED, stage.begun), x -> x.heir(a, b));
                due("mark(" + a + "," + b + ")",
                    first(INDEX, noSeat(a, b), ARGUMENT, a == b, UNSUPPORTED, stage.over || stage.dead.contains(a)),
                    x -> x.mark(a, b));
            }
        }
    }

    private void begin() {
        due("begin", first(UNSUPPORTED, stage.begun, STATE, stage.seats < 3), x -> x.begin());
    }

    private void act() {
        for (int a : seats()) {
            for (int b : seats()) {
                boolean isNot = !stage.night || stage.dead.contains(a) || stage.dead.contains(b) || a == b
                    || stage.idle.contains(a) || stage.usedUp.contains(a);
                due("act(" + a + "," + b + ")", first(INDEX, noSeat(a, b), STATE, notRunning(), UNSUPPORTED, isNot),
                    x -> x.act(a, b));
            }
        }
    }

    private void vote() {
        for (int a : seats()) {
            for (int b : seats()) {
                boolean isNot = noDay() || stage.dead.contains(b) || stage.silenced.contains(a)
                    || stage.spent.contains(a);
                due("vote(" + a + "," + b + ")", first(INDEX, noSeat(a, b), STATE, notRunning(), UNSUPPORTED, isNot),
                    x -> x.vote(a, b));
            }
        }
    }

    private void endings() {
        due("dawn", first(STATE, notRunning(), UNSUPPORTED, !stage.night), x -> x.dawn());
        due("dusk", first(STATE, notRunning(), UNSUPPORTED, noDay()), x -> x.dusk());
        due("isNight", first(STATE, notRunning()), x -> x.isNight());
        due("number", first(STATE, !stage.begun), x -> x.number());
    }

    private void oneSeat() {
        for (int a : seats()) {
            due("didAct(" + a + ")", first(INDEX, noSeat(a), NO_ELEMENT, stage.nights == 0), x -> x.didAct(a));
            due("votes(" + a + ")", first(INDEX, noSeat(a), STATE, notRunning(), UNSUPPORTED, noDay()),
                x -> x.votes(a));
            due("isSilenced(" + a + ")", first(INDEX, noSeat(a), STATE, notRunning(), UNSUPPORTED, noDay()),
                x -> x.isSilenced(a));
            due("isAlive(" + a + ")", first(INDEX, noSeat(a)), x -> x.isAlive(a));
            due("death(" + a + ")", first(INDEX, noSeat(a)), x -> x.death(a));
            due("roleOf(" + a + ")", first(INDEX, noSeat(a)), x -> x.roleOf(a));
            due("hasGhostVote(" + a + ")", first(INDEX, noSeat(a), UNSUPPORTED, !stage.dead.contains(a)),
                x -> x.hasGhostVote(a));
            due("score(" + a + ")", first(INDEX, noSeat(a), STATE, !stage.over), x -> x.score(a));
            due("worlds(" + a + ")", first(INDEX, noSeat(a), STATE, !stage.begun), x -> x.worlds(a));
            due("liars(" + a + ")", first(INDEX, noSeat(a)), x -> x.liars(a));
        }
    }

    private void nights() {
        for (int a : seats()) {
            for (int night : around(stage.nights)) {
                boolean isNone = night < 0 || night >= stage.nights;
                due("told(" + a + "," + night + ")", first(INDEX, noSeat(a), NO_ELEMENT, isNone),
                    x -> x.told(a, night));
                due("seen(" + a + "," + night + ")", first(INDEX, noSeat(a), NO_ELEMENT, isNone),
                    x -> x.seen(a, night));
            }
        }
    }

    private void twoSeats() {
        for (int a : seats()) {
            for (int b : seats()) {
                due("sure(" + a + "," + b + ")", first(INDEX, noSeat(a, b), STATE, !stage.begun), x -> x.sure(a, b));
                due("changed(" + a + "," + b + ")",
                    first(INDEX, noSeat(a, b), ARGUMENT, a == b, STATE, !stage.begun), x -> x.changed(a, b));
                due("alive(" + a + "," + b + ")",
                    first(INDEX, noSeat(a, b), ARGUMENT, a == b, STATE, !stage.begun), x -> x.alive(a, b));
            }
        }
    }

    private void possible() {
        int[] roles = {Integer.MIN_VALUE, -1, 0, stage.roles - 1, stage.roles, Integer.MAX_VALUE};
        for (int a : seats()) {
            for (int b : new int[] {-1, 0, stage.seats - 1, stage.seats}) {
                for (int role : roles) {
                    due("possible(" + a + "," + b + "," + role + ")",
                        first(INDEX, noSeat(a, b) || noRole(role), STATE, !stage.begun),
                        x -> x.possible(a, b, role));
                }
            }
        }
    }

    private void claim() {
        for (int a : seats()) {
            for (int b : seats()) {
                for (char side : "vwl*x".toCharArray()) {
                    boolean isWrong = a == b || "vwl".indexOf(side) < 0;
                    due("claim(" + a + "," + b + side + ")",
                        first(INDEX, noSeat(a, b), ARGUMENT, isWrong, STATE, notRunning(),
                            UNSUPPORTED, stage.claims == 30), x -> x.claim(a, b, side));
                }
            }
        }
    }

    private void holds() {
        for (int a : seats()) {
            for (int claim : around(stage.claims)) {
                boolean isNone = claim < 0 || claim >= stage.claims;
                due("holds(" + a + "," + claim + ")", first(INDEX, noSeat(a) || isNone), x -> x.holds(a, claim));
            }
        }
    }

    private void figures() {
        due("known", first(STATE, !stage.begun), x -> x.known());
        due("winner", first(), x -> x.winner());
        due("checksum", first(), x -> x.checksum());
        due("livingShare", first(NO_ELEMENT, stage.seats == 0), x -> x.livingShare());
        due("meanWorlds", first(STATE, !stage.begun), x -> x.meanWorlds());
        due("isSound", first(), x -> x.isSound());
        for (char side : "vwl*-nxV".toCharArray()) {
            due("living(" + side + ")", first(ARGUMENT, "vwl*".indexOf(side) < 0), x -> x.living(side));
        }
    }

    // ---- the stages of a game ----

    /** A village, and what is so in it. */
    private static final class Stage {
        private final String name;
        private final Checks.Build build;
        private final int roles;
        private final int seats;
        private boolean begun;
        private boolean over;
        private boolean night;
        private int nights;
        private int claims;
        private Set<Integer> dead = Set.of();
        private Set<Integer> idle = Set.of();
        private Set<Integer> usedUp = Set.of();
        private Set<Integer> silenced = Set.of();
        private Set<Integer> spent = Set.of();

        private Stage(String name, int roles, int seats, Checks.Build build) {
            this.name = name;
            this.roles = roles;
            this.seats = seats;
            this.build = build;
        }

        private Stage atNight(int number) {
            begun = true;
            night = true;
            nights = number;
            return this;
        }

        private Stage atDay(int number) {
            begun = true;
            nights = number + 1;
            return this;
        }

        private Stage over(int number) {
            over = true;
            return atDay(number);
        }

        private Stage dead(Integer... seats) {
            dead = Set.of(seats);
            return this;
        }

        private static List<Stage> all() {
            List<Stage> stages = new ArrayList<>();
            stages.add(new Stage("new", 0, 0, NightfallVillage::new));
            stages.add(new Stage("two seats", 2, 2, () -> Villages.ofActs("K-")));
            stages.add(new Stage("three seats", 3, 3, () -> Villages.ofActs("Kb-")));
            stages.add(new Stage("full", 8, 7, Stage::full));
            stages.add(new Stage("dealt", 5, 5, Villages::exampleDealt));
            Stage begun = new Stage("night 0", 5, 5, Villages::exampleBegun).atNight(0);
            begun.idle = Set.of(3);
            stages.add(begun);
            Stage fullBegun = new Stage("full night 0", 8, 7, Stage::fullBegun).atNight(0);
            fullBegun.idle = Set.of(0, 1, 2, 3, 4, 5, 6);
            stages.add(fullBegun);
            stages.add(new Stage("day 0", 5, 5, Villages::exampleAtDay).atDay(0).dead(1));
            Stage over = new Stage("over at dusk", 5, 5, Villages::exampleOver).over(0).dead(0, 1, 2, 3);
            over.claims = 1;
            stages.add(over);
            stages.add(new Stage("over at dawn", 3, 3, Stage::overAtDawn).over(0).dead(1));
            addLater(stages);
            return stages;
        }

        private static void addLater(List<Stage> stages) {
            Stage night = new Stage("night 1", 5, 7, Stage::secondNight).atNight(1).dead(5, 6);
            night.idle = Set.of(4, 6);
            night.usedUp = Set.of(2);
            stages.add(night);
            Stage day = new Stage("day 1", 5, 7, Stage::secondDay).atDay(1).dead(4, 5, 6);
            day.silenced = Set.of(2, 4);
            day.spent = Set.of(5);
            stages.add(day);
            Stage claims = new Stage("30 claims", 5, 5, () -> claimed(Villages.exampleAtDay(), 30)).atDay(0).dead(1);
            claims.claims = 30;
            stages.add(claims);
            Stage almost = new Stage("29 claims", 5, 5, () -> claimed(Villages.exampleBegun(), 29)).atNight(0);
            almost.claims = 29;
            almost.idle = Set.of(3);
            stages.add(almost);
            Stage over = new Stage("over with 30 claims", 3, 3, Stage::claimedAndOver).over(0).dead(1);
            over.claims = 30;
            stages.add(over);
        }

        private static NightfallVillage full() {
            NightfallVillage village = Villages.ofActs("-------");
            village.role('l', 'q', 2, true, true, true);
            return village;
        }

        private static NightfallVillage fullBegun() {
            NightfallVillage village = full();
            village.begin();
            return village;
        }

        private static NightfallVillage overAtDawn() {
            NightfallVillage village = Villages.night("K--", "01");
            village.dawn();
            return village;
        }

        /** Dead are 5, a ghost that has voted, and 6; 2 has used up its act, 4 has none. */
        private static NightfallVillage secondNight() {
            NightfallVillage village = new NightfallVillage();
            village.role('w', 'k', 1, false, false, false);
            village.role('v', 'q', 1, false, false, false);
            village.role('v', 's', 1, true, false, false);
            village.role('v', '-', 1, false, false, true);
            village.role('v', 'p', 2, false, false, false);
            for (int role : new int[] {0, 1, 2, 1, 3, 4, 3}) {
                village.seat(role);
            }
            village.begin();
            Villages.tell(village, "05", "20");
            village.dawn();
            village.vote(5, 6);
            village.dusk();
            return village;
        }

        /** 4 is dead too, 2 and 4 are silenced, the ghost 6 has voted today. */
        private static NightfallVillage secondDay() {
            NightfallVillage village = secondNight();
            Villages.tell(village, "04", "12", "34");
            village.dawn();
            village.vote(6, 0);
            return village;
        }

        private static NightfallVillage claimed(NightfallVillage village, int claims) {
            for (int claim = 0; claim < claims; claim++) {
                village.claim(claim % 3, 3 - claim % 3, "vwl".charAt(claim % 3));
            }
            return village;
        }

        private static NightfallVillage claimedAndOver() {
            NightfallVillage village = Villages.night("K--", "01");
            for (int claim = 0; claim < 30; claim++) {
                village.claim(claim % 2, 2, "vwl".charAt(claim % 3));
            }
            village.dawn();
            return village;
        }
    }
}
