/** What the face shows of a network, put together. */
final class Views {
    private Views() {
    }

    static String text(SensorBond x, int reading) {
        StringBuilder text = new StringBuilder();
        int sign = x.textAt(reading, 0);
        for (int place = 1; sign != SensorBond.NONE; place++) {
            text.append((char) sign);
            sign = x.textAt(reading, place);
        }
        return text.toString();
    }
}
