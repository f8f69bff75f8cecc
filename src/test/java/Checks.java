import java.util.Objects;

/** Counts the answers that are as due, and prints those that are not. */
final class Checks {
    interface Call {
        Object run();
    }

    interface Build {
        NightfallVillage make();
    }

    interface Use {
        Object of(NightfallVillage village);
    }

    private final String name;
    private int asDue;
    private int wrong;

    Checks(String name) {
        this.name = name;
    }

    void is(String what, Object got, Object due) {
        if (Objects.equals(got, due)) {
            asDue++;
        } else {
            wrong++;
            System.out.println(name + ": " + what + " answered " + got + ", due is " + due);
        }
    }

    /** The answer of a call, or what it throws. */
    static Object answer(Call call) {
        try {
            return call.run();
        } catch (RuntimeException e) {
            return e.getClass();
        }
    }

    /** The call throws this, and leaves a village that answers as one in which it was not called. */
    void refuses(String what, Class<?> due, Build build, Use call) {
        NightfallVillage village = build.make();
        is(what, answer(() -> call.of(village)), due);
        changesNothing(what, build, call);
    }

    /** The call leaves a village that answers as one in which it was not called. */
    void changesNothing(String what, Build build, Use call) {
        for (int part = 0; part < Snapshot.PARTS; part++) {
            NightfallVillage village = build.make();
            answer(() -> call.of(village));
            String got = Snapshot.part(village, part);
            String due = Snapshot.part(build.make(), part);
            is(what + " changes nothing", got.equals(due) ? "" : firstOther(got, due), "");
        }
    }

    private static String firstOther(String got, String due) {
        String[] gotLines = got.split("\n");
        String[] dueLines = due.split("\n");
        for (int i = 0; i < gotLines.length && i < dueLines.length; i++) {
            if (!gotLines[i].equals(dueLines[i])) {
                return "line " + i + ": " + gotLines[i] + " in place of " + dueLines[i];
            }
        }
        return "another number of lines";
    }

    void end() {
        System.out.println(name + ": " + asDue + " answers as due, " + wrong + " not");
        if (wrong != 0 || asDue == 0) {
            System.exit(1);
        }
    }
}
