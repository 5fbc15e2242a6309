import java.util.ArrayList;
import java.util.Arrays;
import java.util.List;
import java.util.TreeMap;

/**
 * A second telling of the document, built unlike the class: every tick is ended one by one, uses and samples stand in
 * lists, and the money of all stands in one book by name.
 */
final class PlainModel {
    private static final class Row {
        int sensor;
        int value;
        int told;
        int parts;
        int doubtedAt = -1;
        int doubter = -1;
        char sign = 'x';
        final TreeMap<Integer, Integer> uses = new TreeMap<>();
        final TreeMap<Integer, Integer> samples = new TreeMap<>();
    }

    private static final class Pane {
        int buyer;
        int sensor;
        int price;
        int last;
        int left;
    }

    private final TreeMap<String, Integer> book = new TreeMap<>();
    private final int[] price = new int[12];
    private final int[] sensorOn = new int[12];
    private final int[] repeaterOn = new int[6];
    private final int[] loss = new int[6];
    private final List<List<Boolean>> passed = new ArrayList<>();
    private final List<Row> rows = new ArrayList<>();
    private final List<Pane> panes = new ArrayList<>();
    private int now = 0;

    PlainModel() {
        Arrays.fill(price, 1);
        for (int s = 0; s < 12; s++) {
            sensorOn[s] = s % 6;
            book.put("bond" + s, 100);
            book.put("earned" + s, 0);
        }
        for (int b = 0; b < 6; b++) {
            book.put("purse" + b, 200);
            passed.add(new ArrayList<>());
        }
        book.put("house", 0);
    }

    private int get(String name) {
        return book.get(name);
    }

    int hang(int repeater, int on) {
        index(repeater >= 1 && repeater <= 5 && on >= 0 && on < repeater);
        int old = repeaterOn[repeater];
        repeaterOn[repeater] = on;
        return old;
    }

    int attach(int sensor, int on) {
        index(isSensor(sensor) && isSix(on));
        int old = sensorOn[sensor];
        sensorOn[sensor] = on;
        return old;
    }

    int setLoss(int repeater, int n) {
        index(isSix(repeater));
        argument(n == 0 || n >= 2 && n <= 9);
        int lost = 0;
        for (boolean through : passed.get(repeater)) {
            lost += through ? 0 : 1;
        }
        loss[repeater] = n;
        passed.get(repeater).clear();
        return lost;
    }

    int setPrice(int sensor, int newPrice) {
        index(isSensor(sensor));
        argument(newPrice >= 1 && newPrice <= 20);
        int old = price[sensor];
        price[sensor] = newPrice;
        return old;
    }

    int topUp(int sensor, int amount) {
        index(isSensor(sensor));
        argument(amount >= 1);
        state(get("earned" + sensor) >= amount);
        move("earned" + sensor, "bond" + sensor, amount);
        return get("bond" + sensor);
    }

    int tell(int sensor, int value) {
        index(isSensor(sensor));
        argument(isValue(value));
        state(get("bond" + sensor) >= 20);
        state(rows.size() < 80);
        for (Row row : rows) {
            state(row.sensor != sensor || row.told != now);
        }
        Row row = new Row();
        row.sensor = sensor;
        row.value = value;
        row.told = now;
        for (int part = 1; part <= 4; part++) {
            row.parts += travels(sensorOn[sensor]) ? 1 : 0;
        }
        rows.add(row);
        if (row.parts > 2) {
            row.sign = '.';
            for (Pane pane : panes) {
                if (pane.sensor == sensor) {
                    pane.left -= pane.price;
                    row.uses.put(pane.buyer, pane.price);
                }
            }
        }
        return rows.size() - 1;
    }

    private boolean travels(int repeater) {
        List<Boolean> history = passed.get(repeater);
        boolean through = loss[repeater] == 0 || (history.size() + 1) % loss[repeater] != 0;
        history.add(through);
        return through && (repeater == 0 || travels(repeaterOn[repeater]));
    }

    int open(int buyer, int sensor, int ticks) {
        index(isSix(buyer) && isSensor(sensor));
        argument(ticks >= 1 && ticks <= 20);
        state(pane(buyer, sensor) == null);
        Pane pane = new Pane();
        pane.buyer = buyer;
        pane.sensor = sensor;
        pane.price = price[sensor];
        pane.left = ticks * pane.price;
        pane.last = now + ticks - 1;
        state(get("purse" + buyer) >= pane.left);
        add("purse" + buyer, -pane.left);
        panes.add(pane);
        return pane.last;
    }

    int challenge(int buyer, int reading) {
        index(isSix(buyer) && isRow(reading));
        Row row = rows.get(reading);
        state(row.sign == '.' && get("purse" + buyer) >= 4);
        add("purse" + buyer, -4);
        row.sign = '?';
        row.doubter = buyer;
        row.doubtedAt = now;
        return neighbours(row.sensor).size();
    }

    int sample(int sensor, int reading, int value) {
        index(isSensor(sensor) && isRow(reading));
        argument(isValue(value));
        Row row = rows.get(reading);
        state(row.sign == '?' && neighbours(row.sensor).contains(sensor) && !row.samples.containsKey(sensor));
        row.samples.put(sensor, value);
        if (row.samples.size() == neighbours(row.sensor).size()) {
            judge(row);
        }
        return stateOf(reading);
    }

    int advance(int ticks) {
        argument(ticks >= 1 && ticks <= 100);
        state(now + ticks <= 10000);
        for (int i = 0; i < ticks; i++) {
            endTick();
        }
        return now;
    }

    private void endTick() {
        for (Row row : rows) {
            if (row.sign == '?' && now - row.doubtedAt == 4) {
                judge(row);
            } else if (row.sign == '.' && now - row.told == 4) {
                stand(row);
            }
        }
        for (Pane pane : new ArrayList<>(panes)) {
            if (pane.last == now) {
                add("purse" + pane.buyer, pane.left);
                panes.remove(pane);
            }
        }
        now++;
    }

    private void stand(Row row) {
        add("earned" + row.sensor, held(row));
        row.sign = '+';
    }

    private void judge(Row row) {
        if (row.samples.isEmpty() || Math.abs(middle(row) - row.value) <= 5) {
            add("earned" + row.sensor, 4);
            stand(row);
            return;
        }
        row.sign = '-';
        row.uses.forEach((buyer, paid) -> add("purse" + buyer, paid));
        add("purse" + row.doubter, 4);
        int users = row.uses.size();
        int cut = 4 * price[row.sensor] * (users + 1);
        if (cut > get("bond" + row.sensor)) {
            cut = get("bond" + row.sensor);
        }
        int fourth = (int) Math.floor(cut * 0.25);
        move("bond" + row.sensor, "house", cut);
        move("house", "purse" + row.doubter, fourth);
        for (int buyer : row.uses.keySet()) {
            move("house", "purse" + buyer, (int) Math.floor(cut * 0.5 / users));
        }
    }

    int tick() {
        return now;
    }

    int readings() {
        return rows.size();
    }

    int stateOf(int reading) {
        return ".?+-x".indexOf(row(reading).sign);
    }

    int parts(int reading) {
        return row(reading).parts;
    }

    int users(int reading) {
        return row(reading).uses.size();
    }

    int held(int reading) {
        return held(row(reading));
    }

    private static int held(Row row) {
        int sum = 0;
        for (int paid : row.uses.values()) {
            sum += row.sign == '.' || row.sign == '?' ? paid : 0;
        }
        return sum;
    }

    int middle(int reading) {
        return middle(row(reading));
    }

    private static int middle(Row row) {
        if (row.samples.isEmpty()) {
            return -1;
        }
        List<Integer> sorted = new ArrayList<>(row.samples.values());
        sorted.sort(null);
        while (sorted.size() > 2) {
            sorted.remove(sorted.size() - 1);
            sorted.remove(0);
        }
        return sorted.get(0);
    }

    int textAt(int reading, int place) {
        Row row = row(reading);
        index(place >= 0);
        String text = "abcdefghijkl".charAt(row.sensor) + Integer.toString(row.value) + row.sign;
        return place < text.length() ? text.charAt(place) : -1;
    }

    int sensorOf(int reading) {
        return row(reading).sensor;
    }

    int valueOf(int reading) {
        return row(reading).value;
    }

    int bond(int sensor) {
        index(isSensor(sensor));
        return get("bond" + sensor);
    }

    int earned(int sensor) {
        index(isSensor(sensor));
        return get("earned" + sensor);
    }

    int mark(int sensor) {
        index(isSensor(sensor));
        int sum = 0;
        for (Row row : rows) {
            if (row.sensor == sensor) {
                sum += row.sign == '+' ? 1 : row.sign == '-' ? -3 : 0;
            }
        }
        return sum;
    }

    int purse(int buyer) {
        index(isSix(buyer));
        return get("purse" + buyer);
    }

    int aside(int buyer, int sensor) {
        index(isSix(buyer) && isSensor(sensor));
        Pane pane = pane(buyer, sensor);
        return pane == null ? 0 : pane.left;
    }

    int house() {
        return get("house");
    }

    private Row row(int reading) {
        index(isRow(reading));
        return rows.get(reading);
    }

    private Pane pane(int buyer, int sensor) {
        for (Pane pane : panes) {
            if (pane.buyer == buyer && pane.sensor == sensor) {
                return pane;
            }
        }
        return null;
    }

    private static List<Integer> neighbours(int sensor) {
        List<Integer> found = new ArrayList<>();
        if (sensor > 3) {
            found.add(sensor - 4);
        }
        if (sensor < 8) {
            found.add(sensor + 4);
        }
        if (sensor % 4 != 0) {
            found.add(sensor - 1);
        }
        if (sensor % 4 != 3) {
            found.add(sensor + 1);
        }
        return found;
    }

    private void add(String name, int sum) {
        book.merge(name, sum, Integer::sum);
    }

    private void move(String from, String to, int sum) {
        add(from, -sum);
        add(to, sum);
    }

    private boolean isRow(int number) {
        return number >= 0 && number < rows.size();
    }

    private static boolean isSensor(int number) {
        return number >= 0 && number < 12;
    }

    private static boolean isSix(int number) {
        return number >= 0 && number < 6;
    }

    private static boolean isValue(int number) {
        return number >= 0 && number < 100;
    }

    private static void index(boolean fits) {
        if (!fits) {
            throw new IndexOutOfBoundsException();
        }
    }

    private static void argument(boolean fits) {
        if (!fits) {
            throw new IllegalArgumentException();
        }
    }

    private static void state(boolean fits) {
        if (!fits) {
            throw new IllegalStateException();
        }
    }
}
