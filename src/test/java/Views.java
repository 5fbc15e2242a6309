import java.util.TreeMap;

/** What the face tells of a network, as a text. It makes more calls than the document promises to answer. */
final class Views {
    private Views() {
    }

    static String text(SensorBond x, int reading) {
        StringBuilder text = new StringBuilder();
        for (int place = 0; x.textAt(reading, place) != SensorBond.NONE; place++) {
            text.append((char) x.textAt(reading, place));
        }
        return text.toString();
    }

    /** All that can be seen, in one line: the line that {@link PlainModel} writes of itself. */
    static String line(SensorBond x) {
        TreeMap<String, Integer> book = new TreeMap<>();
        StringBuilder text = new StringBuilder();
        for (int s = 0; s < 12; s++) {
            book.put("bond" + s, x.bond(s));
            book.put("earned" + s, x.earned(s));
            text.append(" mark").append(x.mark(s));
            for (int b = 0; b < 6; b++) {
                text.append(' ').append(x.aside(b, s));
            }
        }
        for (int b = 0; b < 6; b++) {
            book.put("purse" + b, x.purse(b));
        }
        book.put("house", x.house());
        for (int r = 0; r < x.readings(); r++) {
            text.append(' ').append(text(x, r));
            text.append('/').append(x.parts(r)).append('/').append(x.users(r));
            text.append('/').append(x.held(r)).append('/').append(x.middle(r));
        }
        return "tick " + x.tick() + " " + book + text;
    }

    /**
     * All that can be seen, and all that comes of it: what is hidden (ways, losses, prices, who gave a sample, when
     * something is due) shows in the answers of the calls that are made here. The network is used up by it.
     */
    static String story(SensorBond x) {
        StringBuilder story = new StringBuilder(seen(x));
        sampleAll(x, story);
        tellAll(x, story);
        setAllAnew(x, story);
        openAll(x, story);
        for (int i = 0; i < 25; i++) {
            story.append('\n').append(Checks.answerOf(() -> x.advance(1)));
            story.append(seen(x));
        }
        tellAll(x, story);
        return story.toString();
    }

    private static String seen(SensorBond x) {
        StringBuilder text = new StringBuilder(line(x)).append(" states");
        for (int r = 0; r < x.readings(); r++) {
            text.append(' ').append(x.stateOf(r));
        }
        text.append(" by cuts");
        for (int s = 0; s < 12; s++) {
            text.append(' ').append(x.bondByCuts(s));
        }
        return text.toString();
    }

    private static void sampleAll(SensorBond x, StringBuilder story) {
        for (int r = 0; r < x.readings(); r++) {
            for (int s = 0; s < 12; s++) {
                int reading = r;
                int sensor = s;
                story.append(" sample ").append(Checks.answerOf(() -> x.sample(sensor, reading, 8 * sensor)));
            }
        }
    }

    private static void tellAll(SensorBond x, StringBuilder story) {
        for (int s = 0; s < 12; s++) {
            int sensor = s;
            story.append(" tell ").append(Checks.answerOf(() -> x.tell(sensor, 50)));
        }
        story.append(seen(x));
    }

    private static void setAllAnew(SensorBond x, StringBuilder story) {
        for (int s = 0; s < 12; s++) {
            int sensor = s;
            story.append(" set ").append(x.setPrice(sensor, 1)).append(' ').append(x.attach(sensor, 0));
            story.append(" put ").append(Checks.answerOf(() -> x.topUp(sensor, 1)));
        }
        for (int r = 0; r < 6; r++) {
            story.append(" lost ").append(x.setLoss(r, 0));
        }
        for (int r = 1; r < 6; r++) {
            story.append(" hung ").append(x.hang(r, 0));
        }
    }

    private static void openAll(SensorBond x, StringBuilder story) {
        for (int b = 0; b < 6; b++) {
            for (int s = 0; s < 12; s++) {
                int buyer = b;
                int sensor = s;
                story.append(" open ").append(Checks.answerOf(() -> x.open(buyer, sensor, 1)));
            }
        }
    }
}
