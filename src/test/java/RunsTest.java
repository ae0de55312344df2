import java.util.Random;
import java.util.function.Supplier;

/** Runs of 512 calls, each answer compared with the model's; the seeds are fixed. */
public final class RunsTest {
    private static final int RUNS = 120;
    private static final int CALLS = 512;

    private final Random random;
    private final String name;
    private final DroopBoard x = new DroopBoard();
    private final Model model = new Model();
    private int calls;

    private RunsTest(int seed) {
        random = new Random(seed);
        name = "run " + seed + ": ";
    }

    public static void main(String[] args) {
        for (int seed = 1; seed <= RUNS; seed++) {
            new RunsTest(seed).run();
        }
        Check.end("RunsTest");
    }

    private void run() {
        while (calls < CALLS) {
            int kind = random.nextInt(100);
            if (kind < 55) {
                change();
            } else if (kind < 60) {
                text();
            } else if (kind < 88) {
                look();
            } else {
                same("digest", () -> x.digest(), () -> model.digest());
            }
        }
    }

    private static Object answer(Supplier<Object> call) {
        try {
            return call.get();
        } catch (RuntimeException e) {
            return e.getClass().getSimpleName();
        }
    }

    /** What an object answers behind its last call is free. */
    private void same(String call, Supplier<Object> got, Supplier<Object> want) {
        if (calls < CALLS) {
            calls++;
            Check.due(name + calls + ": " + call, answer(got), answer(want));
        }
    }

    /** Mostly inside of the range, at times on or just outside of its ends. */
    private int from(int least, int most) {
        switch (random.nextInt(40)) {
            case 0: return least - 1;
            case 1: return most + 1;
            case 2: return least;
            case 3: return most;
            default: return least + random.nextInt(most - least + 1);
        }
    }

    private int someSpeed() {
        if (random.nextInt(3) == 0) {
            return from(4700, 5300);
        }
        int frequency = model.count(1);
        return Math.max(4700, Math.min(5300, (frequency == 0 ? 5000 : frequency) + from(-12, 12)));
    }

    private void change() {
        int set = from(0, 2);
        int feeder = from(0, 3);
        switch (random.nextInt(14)) {
            case 0: command('r', set); break;
            case 1: command('c', set); break;
            case 2: command('c', set); break;
            case 3: command(random.nextInt(4) == 0 ? 'h' : 'r', set); break;
            case 4: command(random.nextInt(4) == 0 ? 'o' : 'c', set); break;
            case 5: build(set, from(100, 500), from(100, 400)); break;
            case 6: speed(set, someSpeed()); break;
            case 7: speed(set, someSpeed()); break;
            case 8: load(feeder, from(0, random.nextInt(4) == 0 ? 300 : 90)); break;
            case 9: feeder(feeder, from(0, 1)); break;
            case 10: pass(from(1, random.nextInt(5) == 0 ? 99 : 4)); break;
            case 11: pass(from(1, 3)); break;
            case 12: set(from(0, 3)); break;
            default: backwards(); break;
        }
    }

    private void command(char letter, int set) {
        same(letter + " " + set, () -> {
            switch (letter) {
                case 'r': return x.run(set);
                case 'h': return x.halt(set);
                case 'c': return x.close(set);
                default: return x.open(set);
            }
        }, () -> model.command(letter, set));
    }

    private void build(int set, int rating, int droop) {
        same("build", () -> x.build(set, rating, droop), () -> model.build(set, rating, droop));
    }

    private void speed(int set, int speed) {
        same("speed", () -> x.speed(set, speed), () -> model.speed(set, speed));
    }

    private void load(int feeder, int load) {
        same("load", () -> x.load(feeder, load), () -> model.load(feeder, load));
    }

    private void feeder(int feeder, int on) {
        same("feeder", () -> x.feeder(feeder, on), () -> model.feeder(feeder, on));
    }

    private void pass(int ticks) {
        same("pass", () -> x.pass(ticks), () -> model.pass(ticks));
    }

    private void set(int setting) {
        int[] most = {9, 9, 50, 200};
        int value = setting < 0 || setting > 3 ? 1 : from(setting < 2 ? 1 : 0, most[setting]);
        same("set", () -> x.set(setting, value), () -> model.set(setting, value));
    }

    private void backwards() {
        switch (random.nextInt(4)) {
            case 0: same("keep", () -> x.keep(), () -> model.keep()); break;
            case 1: same("goBack", () -> x.goBack(), () -> model.goBack()); break;
            default: same("undo", () -> x.undo(), () -> model.undo()); break;
        }
    }

    private String order() {
        String set = "" + random.nextInt(3);
        switch (random.nextInt(7)) {
            case 0: return "s" + set + "=" + Math.max(4700, Math.min(5300, someSpeed()));
            case 1: return "f" + random.nextInt(4) + (random.nextBoolean() ? "+" : "-");
            case 2: return "t" + (1 + random.nextInt(random.nextInt(5) == 0 ? 99 : 5));
            case 3: return "r" + set;
            case 4: return "c" + set;
            default: return "rhco".charAt(random.nextInt(4)) + set;
        }
    }

    private void text() {
        if (random.nextInt(3) == 0) {
            same("clearBuffer", () -> x.clearBuffer(), () -> model.clearBuffer());
        }
        StringBuilder orders = new StringBuilder(order());
        int more = random.nextInt(6);
        for (int i = 0; i < more; i++) {
            orders.append(';').append(order());
        }
        if (random.nextInt(4) == 0) {
            orders.setCharAt(random.nextInt(orders.length()), (char) from(33, 126));
        }
        for (int i = 0; i < orders.length(); i++) {
            char code = orders.charAt(i);
            same("append", () -> x.append(code), () -> model.append(code));
        }
        same("firstError of " + model.buffer(), () -> x.firstError(), () -> model.firstError());
        String text = model.buffer();
        same("obey of " + text, () -> x.obey(), () -> model.obey());
    }

    private void look() {
        int set = from(0, 2);
        int what = random.nextInt(16) - 1;
        switch (random.nextInt(10)) {
            case 0: same("line", () -> x.line(what % 5, what % 4), () -> model.line(what % 5, what % 4)); break;
            case 1: same("count " + what, () -> x.count(what), () -> model.count(what)); break;
            case 2: same("setting", () -> x.setting(what % 6), () -> model.setting(what % 6)); break;
            case 3: ifSpeed(set, someSpeed(), from(0, 2)); break;
            case 4: same("closeIn", () -> x.closeIn(set), () -> model.closeIn(set)); break;
            case 5: same("fairSpeed", () -> x.fairSpeed(set), () -> model.fairSpeed(set)); break;
            case 6: same("nextTrip", () -> x.nextTrip(), () -> model.nextTrip()); break;
            case 7: same("loadShare", () -> x.loadShare(), () -> model.loadShare()); break;
            case 8: same("meanPower", () -> x.meanPower(), () -> model.meanPower()); break;
            default: same("diesel " + what, () -> x.diesel(set, what), () -> model.diesel(set, what)); break;
        }
    }

    private void ifSpeed(int set, int speed, int what) {
        same("ifSpeed", () -> x.ifSpeed(set, speed, what), () -> model.ifSpeed(set, speed, what));
    }
}
