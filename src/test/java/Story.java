import java.util.function.IntSupplier;
import java.util.function.Supplier;

/**
 * All that a network shows, and all that comes of it, as a text: what is hidden (ways, losses, prices, who gave a
 * sample, when something is due) shows in the answers of later calls. The document promises 512 answers of an object;
 * so each chapter has a network of its own, made by the same calls, and is refused if it takes too many.
 */
final class Story {
    private static final int PROMISED = 512;
    /** A hundred for the way to the last tick, and some more. */
    private static final int FOR_SCENE = 110;
    /** How many readings one network is asked for. */
    private static final int SHELF = 10;
    /** The longest window takes 20 ticks, and a challenge five. */
    private static final int TICKS = 25;

    private final Supplier<SensorBond> scene;
    private final StringBuilder story = new StringBuilder();
    /** The network of this chapter, and how often it was asked. */
    private SensorBond x;
    private int calls;

    private Story(Supplier<SensorBond> scene) {
        this.scene = scene;
    }

    static String of(Supplier<SensorBond> scene) {
        Story story = new Story(scene);
        story.chapter("what there is", story::money);
        story.chapter("settings", story::setAllAnew);
        story.chapter("tellings", story::tellThroughTicks);
        story.chapter("openings", story::openAll);
        story.chapter("purses", story::pursesThroughTicks);
        story.chapter("sensors", story::sensorsThroughTicks);
        story.chaptersOfReadings();
        return story.story.toString();
    }

    private void chapter(String title, Runnable telling) {
        x = scene.get();
        calls = 0;
        story.append('\n').append(title).append(':');
        telling.run();
        Checks.holds(title + ": all of the " + calls + " calls are promised", calls <= PROMISED - FOR_SCENE);
    }

    private void chaptersOfReadings() {
        int count = scene.get().readings();
        for (int first = 0; first < count; first += SHELF) {
            int from = first;
            int to = Math.min(first + SHELF, count);
            chapter("readings from " + from, () -> readings(from, to));
            chapter("samples from " + from, () -> sampleAll(from, to));
            chapter("ends from " + from, () -> readingsThroughTicks(from, to));
        }
    }

    private void add(IntSupplier call) {
        calls++;
        story.append(' ').append(Checks.answerOf(call));
    }

    // ---- the chapters

    private void money() {
        add(x::tick);
        add(x::readings);
        add(x::house);
        for (int s = 0; s < 12; s++) {
            int sensor = s;
            add(() -> x.bondByCuts(sensor));
            add(() -> x.mark(sensor));
            for (int b = 0; b < 6; b++) {
                int buyer = b;
                add(() -> x.aside(buyer, sensor));
            }
        }
        pursesOfBuyers();
        pursesOfSensors();
    }

    private void setAllAnew() {
        for (int s = 0; s < 12; s++) {
            int sensor = s;
            add(() -> x.setPrice(sensor, 1));
            add(() -> x.attach(sensor, 0));
            add(() -> x.topUp(sensor, 1));
        }
        for (int r = 0; r < 6; r++) {
            int repeater = r;
            add(() -> x.setLoss(repeater, 0));
            add(() -> x.hang(repeater, 0));
        }
    }

    private void tellThroughTicks() {
        for (int tick = 0; tick < 4; tick++) {
            for (int s = 0; s < 12; s++) {
                int sensor = s;
                add(() -> x.tell(sensor, 50));
                int last = x.readings() - 1;
                calls++;
                add(() -> x.parts(last));
                add(() -> x.held(last));
            }
            add(() -> x.advance(1));
        }
        pursesOfBuyers();
    }

    private void openAll() {
        for (int b = 0; b < 6; b++) {
            for (int s = 0; s < 12; s++) {
                int buyer = b;
                int sensor = s;
                add(() -> x.open(buyer, sensor, 1));
            }
        }
        pursesOfBuyers();
    }

    private void pursesThroughTicks() {
        for (int tick = 0; tick < TICKS; tick++) {
            add(() -> x.advance(1));
            add(x::house);
            pursesOfBuyers();
        }
    }

    private void sensorsThroughTicks() {
        for (int tick = 0; tick < TICKS; tick += 2) {
            add(() -> x.advance(2));
            pursesOfSensors();
        }
    }

    private void readings(int from, int to) {
        for (int r = from; r < to; r++) {
            int reading = r;
            add(() -> x.stateOf(reading));
            add(() -> x.parts(reading));
            add(() -> x.users(reading));
            add(() -> x.held(reading));
            add(() -> x.middle(reading));
            for (int p = 0; p < 5; p++) {
                int place = p;
                add(() -> x.textAt(reading, place));
            }
        }
    }

    private void sampleAll(int from, int to) {
        for (int r = from; r < to; r++) {
            for (int s = 0; s < 12; s++) {
                int reading = r;
                int sensor = s;
                add(() -> x.sample(sensor, reading, 8 * sensor));
            }
        }
        pursesOfBuyers();
        pursesOfSensors();
    }

    private void readingsThroughTicks(int from, int to) {
        for (int tick = 0; tick < TICKS; tick++) {
            add(() -> x.advance(1));
            for (int r = from; r < to; r++) {
                int reading = r;
                add(() -> x.stateOf(reading));
            }
        }
    }

    private void pursesOfBuyers() {
        for (int b = 0; b < 6; b++) {
            int buyer = b;
            add(() -> x.purse(buyer));
        }
    }

    private void pursesOfSensors() {
        for (int s = 0; s < 12; s++) {
            int sensor = s;
            add(() -> x.bond(sensor));
            add(() -> x.earned(sensor));
        }
    }
}
