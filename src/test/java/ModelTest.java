import java.util.Objects;

/** Many villages by fixed numbers: every answer and exception of the class is that of the model. */
public final class ModelTest {
    private static final int VILLAGES = 2500;
    private static final int CALLS = 512;
    private static final String SIDES = "vvvwwlv";
    private static final String ACTS = "-brdpsqkskd";

    private final NightfallVillage village = new NightfallVillage();
    private final Model model = new Model();
    private final StringBuilder calls = new StringBuilder();
    private final int run;
    private final int wildness;
    private final int asking;
    private long state;
    private int made;
    private int roles;
    private int seats;
    private boolean isWrong;

    private ModelTest(int run) {
        this.run = run;
        state = run * 7919L + 17;
        wildness = below(4) == 0 ? 8 : 60;
        asking = below(30);
    }

    public static void main(String[] args) {
        int first = args.length > 0 ? Integer.parseInt(args[0]) : 0;
        int villages = args.length > 1 ? Integer.parseInt(args[1]) : VILLAGES;
        long calls = 0;
        int wrong = 0;
        int over = 0;
        for (int run = first; run < first + villages && wrong < 3; run++) {
            ModelTest test = new ModelTest(run);
            test.play();
            calls += test.made;
            wrong += test.isWrong ? 1 : 0;
            over += test.model.winner() == '-' ? 0 : 1;
        }
        System.out.println("ModelTest: " + villages + " villages, " + over + " of them over, " + calls + " calls, "
            + wrong + " villages wrong");
        if (wrong != 0 || over == 0) {
            System.exit(1);
        }
    }

    /** A number from 0 on below a bound, by a fixed row of numbers. */
    private int below(int bound) {
        state = state * 6364136223846793005L + 1442695040888963407L;
        return (int) ((state >>> 33) % bound);
    }

    private boolean oneIn(int bound) {
        return below(bound) == 0;
    }

    private int anySeat() {
        return oneIn(wildness) ? below(10) - 1 : below(Math.max(seats, 1));
    }

    private int anyRole() {
        return oneIn(wildness) ? below(11) - 1 : below(Math.max(roles, 1));
    }

    private char anySign(String signs) {
        return oneIn(wildness) ? "x*-nV".charAt(below(5)) : signs.charAt(below(signs.length()));
    }

    private void same(String what, Checks.Call ours, Checks.Call theirs) {
        if (isWrong || made >= CALLS) {
            return;
        }
        made++;
        Object got = Checks.answer(ours);
        Object due = Checks.answer(theirs);
        calls.append(what).append(" = ").append(due).append("; ");
        if (!Objects.equals(got, due)) {
            isWrong = true;
            System.out.println("village " + run + ": " + calls + "\n  the last one answered " + got);
        }
    }

    private void play() {
        setUp();
        same("begin", village::begin, model::begin);
        while (made < CALLS && !isWrong) {
            playNight();
            playDay();
            if (oneIn(6)) {
                setUpCall();
            }
        }
    }

    private void setUp() {
        int most = 3 + below(6);
        for (int i = 0; i < most; i++) {
            roleCall();
        }
        int seating = oneIn(8) ? below(9) : 4 + below(4);
        for (int i = 0; i < seating; i++) {
            seatCall();
        }
        int more = below(14);
        for (int i = 0; i < more; i++) {
            setUpCall();
        }
        if (oneIn(10)) {
            askAll();
        }
    }

    private void roleCall() {
        char side = anySign(SIDES);
        char act = anySign(ACTS);
        int weight = oneIn(wildness) ? below(5) - 1 : 1 + below(2);
        boolean isOnce = oneIn(4);
        boolean isFool = oneIn(4);
        boolean isHunter = oneIn(4);
        int before = made;
        same("role(" + side + act + weight + isOnce + isFool + isHunter + ")",
            () -> village.role(side, act, weight, isOnce, isFool, isHunter),
            () -> model.role(side, act, weight, isOnce, isFool, isHunter));
        roles = made > before && Checks.answer(() -> model.dealt(roles)) instanceof Integer ? roles + 1 : roles;
    }

    private void seatCall() {
        int role = anyRole();
        same("seat(" + role + ")", () -> village.seat(role), () -> model.seat(role));
        seats = Checks.answer(() -> model.isAlive(seats)) instanceof Boolean ? seats + 1 : seats;
    }

    private void setUpCall() {
        int a = anySeat();
        int b = anySeat();
        switch (below(7)) {
            case 0 -> {
                int role = anyRole();
                int other = anyRole();
                same("seems(" + role + "," + other + ")", () -> village.seems(role, other),
                    () -> model.seems(role, other));
            }
            case 1 -> same("lovers(" + a + "," + b + ")", () -> village.lovers(a, b), () -> model.lovers(a, b));
            case 2, 3 -> same("mark(" + a + "," + b + ")", () -> village.mark(a, b), () -> model.mark(a, b));
            case 4, 5 -> same("heir(" + a + "," + b + ")", () -> village.heir(a, b), () -> model.heir(a, b));
            default -> {
                if (oneIn(8)) {
                    roleCall();
                    seatCall();
                    same("begin", village::begin, model::begin);
                }
            }
        }
    }

    private void playNight() {
        int acts = below(12);
        for (int i = 0; i < acts; i++) {
            int a = anySeat();
            int b = anySeat();
            same("act(" + a + "," + b + ")", () -> village.act(a, b), () -> model.act(a, b));
            askSome();
        }
        if (!oneIn(20)) {
            same("dawn", village::dawn, model::dawn);
        }
        askSome();
    }

    private void playDay() {
        int votes = oneIn(3) ? 0 : below(6);
        for (int i = 0; i < votes; i++) {
            int a = anySeat();
            int b = anySeat();
            same("vote(" + a + "," + b + ")", () -> village.vote(a, b), () -> model.vote(a, b));
            same("votes(" + b + ")", () -> village.votes(b), () -> model.votes(b));
            askSome();
        }
        if (oneIn(3)) {
            int a = anySeat();
            int b = anySeat();
            char side = anySign("vwl");
            same("claim(" + a + "," + b + side + ")", () -> village.claim(a, b, side), () -> model.claim(a, b, side));
        }
        if (!oneIn(20)) {
            same("dusk", village::dusk, model::dusk);
        }
        askSome();
        if (model.winner() != '-') {
            askAll();
        }
    }

    private void askSome() {
        int questions = below(1 + asking / 6);
        for (int i = 0; i < questions; i++) {
            ask(below(QUESTIONS));
        }
    }

    private void askAll() {
        for (int question = 0; question < QUESTIONS; question++) {
            ask(question);
        }
    }

    private static final int QUESTIONS = 28;

    private void ask(int question) {
        if (question < 14) {
            askAboutSeats(question);
        } else {
            askAboutKnowledge(question);
        }
    }

    private void askAboutSeats(int question) {
        int a = anySeat();
        int night = below(6) - (oneIn(wildness) ? 1 : 0);
        char side = anySign("vwl*");
        int role = anyRole();
        switch (question) {
            case 0 -> same("didAct(" + a + ")", () -> village.didAct(a), () -> model.didAct(a));
            case 1 -> same("told(" + a + "," + night + ")", () -> village.told(a, night), () -> model.told(a, night));
            case 2 -> same("seen(" + a + "," + night + ")", () -> village.seen(a, night), () -> model.seen(a, night));
            case 3 -> same("votes(" + a + ")", () -> village.votes(a), () -> model.votes(a));
            case 4 -> same("isNight", village::isNight, model::isNight);
            case 5 -> same("number", village::number, model::number);
            case 6 -> same("isAlive(" + a + ")", () -> village.isAlive(a), () -> model.isAlive(a));
            case 7 -> same("living(" + side + ")", () -> village.living(side), () -> model.living(side));
            case 8 -> same("death(" + a + ")", () -> village.death(a), () -> model.death(a));
            case 9 -> same("roleOf(" + a + ")", () -> village.roleOf(a), () -> model.roleOf(a));
            case 10 -> same("dealt(" + role + ")", () -> village.dealt(role), () -> model.dealt(role));
            case 11 -> same("isSilenced(" + a + ")", () -> village.isSilenced(a), () -> model.isSilenced(a));
            case 12 -> same("hasGhostVote(" + a + ")", () -> village.hasGhostVote(a), () -> model.hasGhostVote(a));
            default -> same("score(" + a + ")", () -> village.score(a), () -> model.score(a));
        }
    }

    private void askAboutKnowledge(int question) {
        int a = anySeat();
        int b = anySeat();
        int role = anyRole();
        int claim = below(8) - (oneIn(wildness) ? 1 : 0);
        switch (question) {
            case 14 -> same("winner", village::winner, model::winner);
            case 15 -> same("worlds(" + a + ")", () -> village.worlds(a), () -> model.worlds(a));
            case 16, 17 -> same("possible(" + a + "," + b + "," + role + ")", () -> village.possible(a, b, role),
                () -> model.possible(a, b, role));
            case 18, 19 -> same("sure(" + a + "," + b + ")", () -> village.sure(a, b), () -> model.sure(a, b));
            case 20 -> same("known", village::known, model::known);
            case 21 -> same("holds(" + a + "," + claim + ")", () -> village.holds(a, claim),
                () -> model.holds(a, claim));
            case 22 -> same("liars(" + a + ")", () -> village.liars(a), () -> model.liars(a));
            case 23 -> same("changed(" + a + "," + b + ")", () -> village.changed(a, b), () -> model.changed(a, b));
            case 24 -> same("alive(" + a + "," + b + ")", () -> village.alive(a, b), () -> model.alive(a, b));
            case 25 -> same("checksum", village::checksum, model::checksum);
            case 26 -> same("livingShare", village::livingShare, model::livingShare);
            default -> {
                same("meanWorlds", village::meanWorlds, model::meanWorlds);
                same("isSound", village::isSound, model::isSound);
            }
        }
    }
}
