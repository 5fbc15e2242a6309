import java.util.function.IntUnaryOperator;

/** For each promise of the document: ordinary inputs, the edges that it names, and wrong inputs. */
public final class PromisesTest {
    private static final int[] NO_SENSOR = {-1, 12, Integer.MIN_VALUE, Integer.MAX_VALUE};
    private static final int[] NO_SIX = {-1, 6, Integer.MIN_VALUE, Integer.MAX_VALUE};

    private PromisesTest() {
    }

    public static void main(String[] args) {
        promise01NewObject();
        promise02Hang();
        promise03Attach();
        promise04SetLoss();
        promise05SetPrice();
        promise06TopUp();
        promise07Tell();
        promise08Open();
        promise08WindowsEnd();
        promise09Challenge();
        promise10Sample();
        promise10Judgement();
        promise10Cuts();
        promise11Advance();
        promise11Order();
        promise12Tick();
        promise13Readings();
        promise14StateOf();
        promise15Parts();
        promise16Users();
        promise17Held();
        promise18Middle();
        promise19TextAt();
        promise20Bond();
        promise21BondByCuts();
        promise22Earned();
        promise23Mark();
        promise24Purse();
        promise25Aside();
        promise26House();
        Checks.close("PromisesTest");
    }

    // ---- the promises

    private static void promise01NewObject() {
        SensorBond x = new SensorBond();
        Checks.due("1 tick", 0, x.tick());
        Checks.due("1 readings", 0, x.readings());
        Checks.due("1 house", 0, x.house());
        for (int sensor = 0; sensor < 12; sensor++) {
            Checks.due("1 bond", 100, x.bond(sensor));
            Checks.due("1 bondByCuts", 100, x.bondByCuts(sensor));
            Checks.due("1 earned", 0, x.earned(sensor));
            Checks.due("1 mark", 0, x.mark(sensor));
            Checks.due("1 price", 1, x.setPrice(sensor, 2));
            Checks.due("1 hangs on", sensor % 6, x.attach(sensor, 0));
        }
        for (int buyer = 0; buyer < 6; buyer++) {
            Checks.due("1 purse", 200, x.purse(buyer));
            for (int sensor = 0; sensor < 12; sensor++) {
                Checks.due("1 aside", 0, x.aside(buyer, sensor));
            }
        }
        for (int repeater = 0; repeater < 6; repeater++) {
            Checks.due("1 lost", 0, x.setLoss(repeater, 0));
        }
        for (int repeater = 1; repeater < 6; repeater++) {
            Checks.due("1 repeater on the hub", 0, x.hang(repeater, 0));
        }
        SensorBond y = new SensorBond();
        for (int sensor = 0; sensor < 12; sensor++) {
            Checks.due("1 all parts", 4, y.parts(y.tell(sensor, sensor)));
        }
        Checks.due("1 another object is another", 0, x.readings());
    }

    private static void promise02Hang() {
        SensorBond x = new SensorBond();
        Checks.due("2 first", 0, x.hang(5, 4));
        Checks.due("2 again", 4, x.hang(5, 3));
        Checks.due("2 the same", 3, x.hang(5, 3));
        Checks.due("2 back", 3, x.hang(5, 0));
        Checks.due("2 lowest", 0, x.hang(1, 0));
        for (int repeater : new int[] {-1, 0, 6, Integer.MIN_VALUE, Integer.MAX_VALUE}) {
            Checks.noIndex("2 repeater " + repeater, () -> x.hang(repeater, 0));
        }
        for (int on : new int[] {-1, 3, 4, 5, 6, Integer.MIN_VALUE, Integer.MAX_VALUE}) {
            Checks.noIndex("2 on " + on, () -> x.hang(3, on));
        }
        Checks.due("2 refused hangs change nothing", 0, x.hang(3, 2));

        SensorBond chain = new SensorBond();
        for (int repeater = 1; repeater < 6; repeater++) {
            chain.hang(repeater, repeater - 1);
        }
        chain.setLoss(1, 3);
        Checks.due("2 parts go down the chain", 3, chain.parts(chain.tell(5, 1)));
        chain.setLoss(1, 3);
        chain.hang(2, 0);
        Checks.due("2 parts go round what they no longer hang on", 4, chain.parts(chain.tell(11, 1)));
        Checks.due("2 and do not come to it", 0, chain.setLoss(1, 0));
    }

    private static void promise03Attach() {
        SensorBond x = new SensorBond();
        Checks.due("3 first", 5, x.attach(11, 2));
        Checks.due("3 again", 2, x.attach(11, 0));
        Checks.due("3 the hub", 0, x.attach(11, 5));
        Checks.due("3 another sensor", 0, x.attach(6, 1));
        for (int sensor : NO_SENSOR) {
            Checks.noIndex("3 sensor " + sensor, () -> x.attach(sensor, 0));
        }
        for (int on : NO_SIX) {
            Checks.noIndex("3 on " + on, () -> x.attach(0, on));
        }
        Checks.due("3 refused calls change nothing", 0, x.attach(0, 3));
        x.setLoss(3, 2);
        Checks.due("3 the way is by the new one", 2, x.parts(x.tell(0, 0)));
        x.attach(3, 1);
        Checks.due("3 and not by the old one", 4, x.parts(x.tell(3, 0)));
    }

    private static void promise04SetLoss() {
        SensorBond x = new SensorBond();
        Checks.due("4 none", 0, x.setLoss(1, 3));
        Checks.due("4 third is lost", 3, x.parts(x.tell(1, 1)));
        Checks.due("4 sixth is lost", 3, x.parts(x.tell(7, 1)));
        x.advance(1);
        Checks.due("4 ninth and twelfth are lost", 2, x.parts(x.tell(1, 1)));
        Checks.due("4 all are told", 4, x.setLoss(1, 5));
        Checks.due("4 counted anew", 4, x.parts(x.tell(7, 1)));
        Checks.due("4 the fourth of five", 0, x.setLoss(1, 5));
        x.advance(1);
        Checks.due("4 the same n counts anew as well", 4, x.parts(x.tell(7, 1)));
        Checks.due("4 so the fifth comes now", 3, x.parts(x.tell(1, 1)));
        Checks.due("4 one", 1, x.setLoss(1, 0));
        Checks.due("4 with 0 none", 0, x.setLoss(1, 9));
        for (int repeater : NO_SIX) {
            Checks.noIndex("4 repeater " + repeater, () -> x.setLoss(repeater, 2));
            Checks.noIndex("4 index comes first " + repeater, () -> x.setLoss(repeater, 1));
        }
        for (int n : new int[] {1, 10, -1, -2, Integer.MIN_VALUE, Integer.MAX_VALUE}) {
            Checks.badArgument("4 n " + n, () -> x.setLoss(0, n));
        }
        lossesOnTheWay();
    }

    private static void lossesOnTheWay() {
        SensorBond x = new SensorBond();
        x.setLoss(0, 2);
        Checks.due("4 the hub loses too", 2, x.parts(x.tell(3, 1)));
        Checks.due("4 the hub lost", 2, x.setLoss(0, 4));
        x.setLoss(4, 2);
        Checks.due("4 a lost part comes no further", 2, x.parts(x.tell(4, 1)));
        Checks.due("4 hub: two more, the fourth is lost", 3, x.parts(x.tell(3 + 6, 1)));
        Checks.due("4 hub lost one", 1, x.setLoss(0, 0));
        Checks.due("4 repeater 4 lost two", 2, x.setLoss(4, 0));
        Checks.due("4 lossless again", 4, x.parts(x.tell(10, 1)));
        x.setLoss(2, 5);
        x.tell(2, 1);
        Checks.badArgument("4 refused", () -> x.setLoss(2, 1));
        Checks.due("4 a refused call counts nothing anew", 3, x.parts(x.tell(8, 1)));
        Checks.due("4 nor sets anything", 1, x.setLoss(2, 2));
        SensorBond y = new SensorBond();
        y.setLoss(0, 9);
        y.tell(0, 1);
        y.tell(1, 1);
        Checks.due("4 the ninth", 3, y.parts(y.tell(2, 1)));
    }

    private static void promise05SetPrice() {
        SensorBond x = new SensorBond();
        Checks.due("5 first", 1, x.setPrice(0, 20));
        Checks.due("5 lowest", 20, x.setPrice(0, 1));
        Checks.due("5 again", 1, x.setPrice(0, 7));
        Checks.due("5 another sensor", 1, x.setPrice(11, 2));
        for (int sensor : NO_SENSOR) {
            Checks.noIndex("5 sensor " + sensor, () -> x.setPrice(sensor, 1));
            Checks.noIndex("5 index comes first " + sensor, () -> x.setPrice(sensor, 0));
        }
        for (int price : new int[] {0, 21, -1, Integer.MIN_VALUE, Integer.MAX_VALUE}) {
            Checks.badArgument("5 price " + price, () -> x.setPrice(0, price));
        }
        x.open(0, 0, 2);
        Checks.due("5 refused prices change nothing", 14, x.aside(0, 0));
        x.setPrice(0, 3);
        Checks.due("5 an open window keeps its price", 14, x.aside(0, 0));
        x.tell(0, 50);
        Checks.due("5 and pays by it", 7, x.held(0));
        x.open(1, 0, 2);
        Checks.due("5 a later window has the new one", 6, x.aside(1, 0));
        x.setPrice(0, 4);
        x.challenge(2, 0);
        x.setPrice(0, 5);
        x.sample(1, 0, 0);
        x.sample(4, 0, 0);
        Checks.due("5 a cut is by the price that the sensor has then", 100 - 4 * 5 * 2, x.bond(0));
    }

    private static void promise06TopUp() {
        SensorBond x = Scenes.withEarned(20);
        Checks.badState("6 above the purse", () -> x.topUp(0, 21));
        Checks.badState("6 far above the purse", () -> x.topUp(0, Integer.MAX_VALUE));
        Checks.due("6 one", 101, x.topUp(0, 1));
        Checks.due("6 the purse is less", 19, x.earned(0));
        Checks.due("6 all the rest", 120, x.topUp(0, 19));
        Checks.due("6 nothing left", 0, x.earned(0));
        Checks.due("6 bond", 120, x.bond(0));
        Checks.badState("6 from nothing", () -> x.topUp(0, 1));
        Checks.badState("6 another sensor", () -> x.topUp(1, 1));
        for (int sensor : NO_SENSOR) {
            Checks.noIndex("6 sensor " + sensor, () -> x.topUp(sensor, 1));
            Checks.noIndex("6 index comes first " + sensor, () -> x.topUp(sensor, 0));
        }
        for (int amount : new int[] {0, -1, Integer.MIN_VALUE}) {
            Checks.badArgument("6 amount " + amount, () -> x.topUp(0, amount));
        }
        Checks.due("6 refused calls change nothing", 120, x.bond(0));
        Checks.due("6 nor the purse", 0, x.earned(0));
    }

    private static void promise07Tell() {
        SensorBond x = new SensorBond();
        Checks.due("7 first", 0, x.tell(0, 0));
        Checks.due("7 next", 1, x.tell(11, 99));
        Checks.badState("7 twice in a tick", () -> x.tell(0, 1));
        for (int sensor : NO_SENSOR) {
            Checks.noIndex("7 sensor " + sensor, () -> x.tell(sensor, 0));
            Checks.noIndex("7 index comes first " + sensor, () -> x.tell(sensor, 100));
        }
        for (int value : new int[] {-1, 100, Integer.MIN_VALUE, Integer.MAX_VALUE}) {
            Checks.badArgument("7 value " + value, () -> x.tell(1, value));
            Checks.badArgument("7 the value comes before the state " + value, () -> x.tell(0, value));
        }
        Checks.due("7 refused calls tell nothing", 2, x.readings());
        Checks.due("7 nor count for the tick", 2, x.tell(1, 5));
        x.advance(1);
        Checks.due("7 again in the next tick", 3, x.tell(0, 1));
        x.setLoss(2, 2);
        x.tell(2, 1);
        Checks.due("7 it was lost", SensorBond.LOST, x.stateOf(4));
        Checks.badState("7 a lost one counts for the tick", () -> x.tell(2, 1));
        mutedBelowTwenty();
        eightyReadings();
    }

    private static void mutedBelowTwenty() {
        SensorBond x = new SensorBond();
        x.setPrice(0, 20);
        Scenes.lie(x, 0);
        Checks.due("7 bond 20", 20, x.bond(0));
        x.advance(1);
        Checks.due("7 with 20 it is not muted", 1, x.tell(0, 0));
        x.advance(5);
        x.setPrice(0, 1);
        x.open(1, 0, 2);
        int reading = Scenes.lie(x, 0);
        Checks.due("7 used by one", 1, x.users(reading));
        Checks.due("7 bond 12", 12, x.bond(0));
        x.advance(1);
        Checks.badState("7 muted", () -> x.tell(0, 0));
        Checks.badArgument("7 the value comes first", () -> x.tell(0, 100));
        Checks.due("7 a muted one tells nothing", reading + 1, x.readings());
        int other = x.tell(1, 0);
        x.challenge(0, other);
        Checks.due("7 but it can give samples", SensorBond.CHALLENGED, x.sample(0, other, 0));

        SensorBond y = Scenes.withEarned(20);
        y.setPrice(0, 20);
        Scenes.lie(y, 0);
        y.advance(1);
        y.setPrice(0, 1);
        Scenes.lie(y, 0);
        y.advance(1);
        Checks.due("7 bond 16", 16, y.bond(0));
        Checks.badState("7 muted again", () -> y.tell(0, 0));
        y.topUp(0, 3);
        Checks.badState("7 muted with 19", () -> y.tell(0, 0));
        y.topUp(0, 1);
        Checks.due("7 speaks with 20", 3, y.tell(0, 0));
    }

    private static void eightyReadings() {
        SensorBond x = new SensorBond();
        for (int i = 0; i < 80; i++) {
            if (i > 0 && i % 12 == 0) {
                x.advance(1);
            }
            Checks.due("7 number", i, x.tell(i % 12, i));
        }
        Checks.badState("7 the eighty-first", () -> x.tell(11, 0));
        Checks.badArgument("7 the value before the eighty", () -> x.tell(11, 100));
        Checks.due("7 eighty", 80, x.readings());
        Checks.due("7 the last one", "h79.", Views.text(x, 79));
        Checks.noIndex("7 none behind", () -> x.stateOf(80));
        x.advance(100);
        Checks.badState("7 eighty for ever", () -> x.tell(0, 0));
        Checks.due("7 marks", 7, x.mark(7));
    }

    private static void promise08Open() {
        SensorBond x = new SensorBond();
        x.setPrice(3, 20);
        Checks.due("8 one tick", 0, x.open(0, 3, 1));
        Checks.due("8 purse", 180, x.purse(0));
        Checks.due("8 aside", 20, x.aside(0, 3));
        Checks.badState("8 has one", () -> x.open(0, 3, 1));
        Checks.due("8 longest", 19, x.open(0, 4, 20));
        Checks.due("8 another buyer", 9, x.open(1, 3, 10));
        Checks.due("8 all of the purse", 0, x.purse(1));
        Checks.badState("8 too dear", () -> x.open(1, 0, 1));
        Checks.badState("8 too dear by the ticks", () -> x.open(2, 3, 11));
        for (int wrong : NO_SIX) {
            Checks.noIndex("8 buyer " + wrong, () -> x.open(wrong, 0, 1));
            Checks.noIndex("8 index comes first " + wrong, () -> x.open(wrong, 0, 0));
        }
        for (int sensor : NO_SENSOR) {
            Checks.noIndex("8 sensor " + sensor, () -> x.open(0, sensor, 1));
            Checks.noIndex("8 index comes first " + sensor, () -> x.open(0, sensor, 21));
        }
        for (int ticks : new int[] {0, 21, -1, Integer.MIN_VALUE, Integer.MAX_VALUE}) {
            Checks.badArgument("8 ticks " + ticks, () -> x.open(2, 0, ticks));
            Checks.badArgument("8 ticks come before the state " + ticks, () -> x.open(0, 3, ticks));
        }
        Checks.due("8 refused windows change nothing", 200, x.purse(2));
        Checks.due("8 nor set aside", 0, x.aside(2, 0));
        x.advance(3);
        Checks.due("8 this tick is the first", 7, x.open(2, 0, 5));
    }

    private static void promise08WindowsEnd() {
        SensorBond x = new SensorBond();
        x.setPrice(0, 5);
        x.tell(0, 50);
        x.open(0, 0, 2);
        Checks.due("8 what came ahead of the opening is not used", 0, x.users(0));
        x.advance(1);
        x.tell(0, 50);
        Checks.due("8 the last tick is used", 1, x.users(1));
        Checks.due("8 half is left", 5, x.aside(0, 0));
        Checks.due("8 still open", "java.lang.IllegalStateException", Checks.answerOf(() -> x.open(0, 0, 1)));
        x.advance(1);
        Checks.due("8 closed", 0, x.aside(0, 0));
        Checks.due("8 what is left goes back", 195, x.purse(0));
        x.tell(0, 50);
        Checks.due("8 behind the last tick nothing is used", 0, x.users(2));
        Checks.due("8 open again", 2, x.open(0, 0, 1));
        x.advance(1);
        Checks.due("8 unused: all goes back", 195, x.purse(0));

        SensorBond y = new SensorBond();
        y.setLoss(0, 2);
        y.open(0, 0, 1);
        y.tell(0, 1);
        Checks.due("8 lost ones are not used", 0, y.users(0));
        Checks.due("8 nor paid", 1, y.aside(0, 0));
        y.advance(1);
        Checks.due("8 all back", 200, y.purse(0));

        SensorBond z = new SensorBond();
        for (int i = 0; i < 100; i++) {
            z.advance(100);
        }
        Checks.due("8 the last of the ticks may be above all ticks", 10019, z.open(0, 0, 20));
    }

    private static void promise09Challenge() {
        SensorBond x = new SensorBond();
        int[] neighbours = {2, 3, 3, 2, 3, 4, 4, 3, 2, 3, 3, 2};
        for (int sensor = 0; sensor < 12; sensor++) {
            x.tell(sensor, 50);
            Checks.due("9 neighbours of " + sensor, neighbours[sensor], x.challenge(sensor % 2, sensor));
            Checks.due("9 state", SensorBond.CHALLENGED, x.stateOf(sensor));
        }
        Checks.due("9 stakes", 200 - 6 * 4, x.purse(0));
        Checks.badState("9 it is CHALLENGED", () -> x.challenge(2, 0));
        Checks.due("9 refused: the purse is as before", 200, x.purse(2));
        for (int buyer : NO_SIX) {
            Checks.noIndex("9 buyer " + buyer, () -> x.challenge(buyer, 0));
        }
        for (int reading : new int[] {-1, 12, 80, Integer.MIN_VALUE, Integer.MAX_VALUE}) {
            Checks.noIndex("9 reading " + reading, () -> x.challenge(0, reading));
        }
        x.advance(5);
        Checks.due("9 has stood", SensorBond.STOOD, x.stateOf(0));
        Checks.badState("9 it has STOOD", () -> x.challenge(2, 0));
        int liar = Scenes.lie(x, 0);
        Checks.badState("9 it is a LIE", () -> x.challenge(2, liar));
        x.setLoss(0, 2);
        int lost = x.tell(1, 0);
        Checks.badState("9 it is LOST", () -> x.challenge(2, lost));

        SensorBond y = new SensorBond();
        y.tell(0, 1);
        y.tell(1, 1);
        y.setPrice(11, 14);
        y.open(0, 11, 14);
        Checks.due("9 a purse of 4", 4, y.purse(0));
        Checks.due("9 is enough", 2, y.challenge(0, 0));
        Checks.due("9 and is spent", 0, y.purse(0));
        y.open(1, 11, 14);
        y.open(1, 10, 1);
        Checks.badState("9 a purse of 3 is not", () -> y.challenge(1, 1));
        Checks.due("9 a buyer need not use what it challenges", 3, y.challenge(2, 1));
    }

    private static void promise10Sample() {
        SensorBond x = new SensorBond();
        x.tell(5, 50);
        Checks.badState("10 it is FRESH", () -> x.sample(1, 0, 50));
        x.challenge(0, 0);
        for (int sensor : new int[] {0, 2, 3, 5, 7, 8, 10, 11}) {
            Checks.badState("10 no neighbour " + sensor, () -> x.sample(sensor, 0, 50));
        }
        for (int sensor : NO_SENSOR) {
            Checks.noIndex("10 sensor " + sensor, () -> x.sample(sensor, 0, 50));
            Checks.noIndex("10 index comes first " + sensor, () -> x.sample(sensor, 0, 100));
        }
        for (int reading : new int[] {-1, 1, 80, Integer.MIN_VALUE, Integer.MAX_VALUE}) {
            Checks.noIndex("10 reading " + reading, () -> x.sample(1, reading, 50));
            Checks.noIndex("10 index comes first " + reading, () -> x.sample(1, reading, -1));
        }
        for (int value : new int[] {-1, 100, Integer.MIN_VALUE, Integer.MAX_VALUE}) {
            Checks.badArgument("10 value " + value, () -> x.sample(1, 0, value));
            Checks.badArgument("10 the value comes before the state " + value, () -> x.sample(0, 0, value));
        }
        Checks.due("10 no sample yet", SensorBond.NONE, x.middle(0));
        Checks.due("10 one", SensorBond.CHALLENGED, x.sample(1, 0, 0));
        Checks.badState("10 one each", () -> x.sample(1, 0, 0));
        Checks.due("10 two", SensorBond.CHALLENGED, x.sample(9, 0, 99));
        Checks.due("10 three", SensorBond.CHALLENGED, x.sample(4, 0, 50));
        Checks.due("10 all", SensorBond.STOOD, x.sample(6, 0, 50));
        Checks.badState("10 it has STOOD", () -> x.sample(1, 0, 50));
        x.tell(4, 1);
        x.tell(3, 1);
        x.challenge(0, 2);
        Checks.badState("10 the end of a row has none in the next row", () -> x.sample(4, 2, 1));
        Checks.due("10 but one below", SensorBond.CHALLENGED, x.sample(7, 2, 1));
        x.challenge(0, 1);
        Checks.due("10 one sample for each reading", SensorBond.CHALLENGED, x.sample(5, 1, 1));
        int liar = Scenes.lie(x, 1);
        Checks.badState("10 it is a LIE", () -> x.sample(1, liar, 50));
        x.advance(5);
        Checks.badState("10 too late for one that has STOOD", () -> x.sample(0, 1, 1));
        Checks.due("10 what came too late is not counted", 1, x.middle(1));
        x.setLoss(0, 2);
        int lost = x.tell(1, 0);
        Checks.badState("10 it is LOST", () -> x.sample(0, lost, 50));
    }

    private static void promise10Judgement() {
        int[][] cases = {
            {50, 45, 45, SensorBond.STOOD}, {50, 44, 44, SensorBond.LIE},
            {50, 55, 55, SensorBond.STOOD}, {50, 56, 56, SensorBond.LIE},
            {50, 55, 99, SensorBond.STOOD}, {50, 99, 55, SensorBond.STOOD},
            {50, 44, 50, SensorBond.LIE}, {50, 50, 44, SensorBond.LIE},
            {0, 5, 5, SensorBond.STOOD}, {99, 93, 99, SensorBond.LIE},
        };
        for (int[] c : cases) {
            SensorBond x = new SensorBond();
            x.tell(0, c[0]);
            x.challenge(0, 0);
            x.sample(1, 0, c[1]);
            Checks.due("10 judged as soon as all have given one", c[3], x.sample(4, 0, c[2]));
            Checks.due("10 and so it is", c[3], x.stateOf(0));
        }
        SensorBond x = new SensorBond();
        x.setPrice(0, 9);
        x.open(1, 0, 1);
        x.tell(0, 50);
        x.challenge(0, 0);
        x.sample(1, 0, 50);
        x.sample(4, 0, 50);
        Checks.due("10 stake and what is held go to the sensor", 13, x.earned(0));
        Checks.due("10 the challenger has lost the stake", 196, x.purse(0));
        Checks.due("10 no cut", 100, x.bond(0));
        Checks.due("10 nothing held", 0, x.held(0));
        Checks.due("10 used as before", 1, x.users(0));
    }

    private static void promise10Cuts() {
        SensorBond x = new SensorBond();
        x.setPrice(0, 3);
        x.open(0, 0, 2);
        x.open(1, 0, 2);
        x.open(2, 0, 2);
        Scenes.lie(x, 0);
        Checks.due("10 the cut is 4 * 3 * 4", 52, x.bond(0));
        Checks.due("10 user and challenger: 3 back, 4 back, 8 and 12", 200 - 6 - 4 + 3 + 4 + 8 + 12, x.purse(0));
        Checks.due("10 user: 3 back, and 8", 200 - 6 + 3 + 8, x.purse(1));
        Checks.due("10 another user", 205, x.purse(2));
        Checks.due("10 the rest", 48 - 24 - 12, x.house());
        Checks.due("10 nothing for the liar", 0, x.earned(0));
        Checks.due("10 what was not used is aside", 3, x.aside(1, 0));

        SensorBond none = new SensorBond();
        Scenes.lie(none, 3);
        Checks.due("10 unused: the cut is 4", 96, none.bond(0));
        Checks.due("10 the challenger has a fourth", 201, none.purse(3));
        Checks.due("10 the half is left for the house", 3, none.house());

        SensorBond all = new SensorBond();
        all.setPrice(0, 19);
        for (int buyer = 0; buyer < 6; buyer++) {
            all.open(buyer, 0, 1);
        }
        Scenes.lie(all, 5);
        Checks.due("10 at most the bond", 0, all.bond(0));
        Checks.due("10 a sixth of the half, rounded down", 208, all.purse(0));
        Checks.due("10 and a fourth", 233, all.purse(5));
        Checks.due("10 what is rounded away is the house's", 100 - 48 - 25, all.house());

        SensorBond odd = Scenes.withEarned(1);
        odd.setPrice(0, 20);
        Scenes.lie(odd, 0);
        odd.advance(1);
        odd.topUp(0, 1);
        odd.open(1, 0, 1);
        odd.open(2, 0, 1);
        Scenes.lie(odd, 0);
        Checks.due("10 an odd cut of 21", 0, odd.bond(0));
        Checks.due("10 half of 21 by two", 205, odd.purse(1));
        Checks.due("10 a fourth of 80 and of 21", 200 + 20 + 5, odd.purse(0));
        Checks.due("10 the house", 60 + 21 - 10 - 5, odd.house());
    }

    private static void promise11Advance() {
        SensorBond x = new SensorBond();
        Checks.due("11 one", 1, x.advance(1));
        Checks.due("11 a hundred", 101, x.advance(100));
        for (int ticks : new int[] {0, 101, -1, Integer.MIN_VALUE, Integer.MAX_VALUE}) {
            Checks.badArgument("11 ticks " + ticks, () -> x.advance(ticks));
        }
        Checks.due("11 refused calls end none", 101, x.tick());
        for (int i = 0; i < 98; i++) {
            x.advance(100);
        }
        Checks.due("11 9901", 9901, x.tick());
        Checks.badState("11 above 10000", () -> x.advance(100));
        Checks.due("11 refused", 9901, x.tick());
        Checks.due("11 up to 10000", 10000, x.advance(99));
        Checks.badState("11 no further", () -> x.advance(1));
        Checks.badArgument("11 the argument comes first", () -> x.advance(101));

        SensorBond y = new SensorBond();
        y.advance(2);
        y.setPrice(0, 6);
        y.open(0, 0, 1);
        y.tell(0, 50);
        y.advance(4);
        Checks.due("11 four ticks are too few", SensorBond.FRESH, y.stateOf(0));
        y.advance(1);
        Checks.due("11 stands when the fifth ends", SensorBond.STOOD, y.stateOf(0));
        Checks.due("11 and is paid", 6, y.earned(0));

        SensorBond z = new SensorBond();
        z.tell(0, 50);
        z.advance(4);
        z.challenge(0, 0);
        z.advance(4);
        Checks.due("11 a challenge counts anew", SensorBond.CHALLENGED, z.stateOf(0));
        z.advance(1);
        Checks.due("11 without samples it has STOOD", SensorBond.STOOD, z.stateOf(0));
        Checks.due("11 and has the stake", 4, z.earned(0));
        z.tell(0, 50);
        z.challenge(0, 1);
        z.sample(1, 1, 0);
        z.advance(5);
        Checks.due("11 one sample is enough", SensorBond.LIE, z.stateOf(1));
        Checks.due("11 and is cut", 96, z.bond(0));
    }

    private static void promise11Order() {
        SensorBond x = new SensorBond();
        x.setPrice(0, 18);
        x.tell(0, 0);
        x.advance(1);
        x.open(1, 0, 1);
        x.tell(0, 0);
        x.challenge(2, 1);
        x.challenge(3, 0);
        x.sample(1, 0, 99);
        x.sample(1, 1, 99);
        x.advance(5);
        Checks.due("11 both are lies, the lower number first", 0, x.bond(0));
        Checks.due("11 a fourth of 72", 200 + 18, x.purse(3));
        Checks.due("11 a fourth of the 28 that were left", 200 + 7, x.purse(2));
        Checks.due("11 half of these", 200 + 14, x.purse(1));
        Checks.due("11 house", 54 + 7, x.house());

        SensorBond y = new SensorBond();
        y.open(0, 0, 20);
        y.tell(0, 50);
        y.advance(100);
        Checks.due("11 many ticks at once: has STOOD", SensorBond.STOOD, y.stateOf(0));
        Checks.due("11 many ticks at once: the window is closed", 0, y.aside(0, 0));
        Checks.due("11 many ticks at once: the rest is back", 199, y.purse(0));
        Checks.due("11 many ticks at once: paid", 1, y.earned(0));
        y.open(0, 0, 20);
        y.advance(19);
        Checks.due("11 the last tick goes on", 20, y.aside(0, 0));
        y.advance(1);
        Checks.due("11 until it ends", 0, y.aside(0, 0));

        SensorBond z = new SensorBond();
        z.open(0, 0, 20);
        z.tell(1, 1);
        z.advance(19);
        z.tell(0, 7);
        z.tell(1, 7);
        Checks.due("11 the reading of the last tick is used", 1, z.users(1));
        z.advance(5);
        Checks.due("11 what waits longer than any window", SensorBond.STOOD, z.stateOf(2));
    }

    private static void promise12Tick() {
        SensorBond x = new SensorBond();
        Checks.due("12 first", 0, x.tick());
        x.tell(0, 0);
        x.open(0, 0, 3);
        Checks.due("12 other calls end none", 0, x.tick());
        x.advance(7);
        Checks.due("12 then", 7, x.tick());
        Checks.badArgument("12 refused", () -> x.advance(0));
        Checks.due("12 as before", 7, x.tick());
    }

    private static void promise13Readings() {
        SensorBond x = new SensorBond();
        x.tell(0, 0);
        Checks.due("13 one", 1, x.readings());
        Checks.badState("13 refused", () -> x.tell(0, 0));
        Checks.due("13 as before", 1, x.readings());
        x.setLoss(0, 2);
        x.tell(1, 0);
        Checks.due("13 lost ones are counted", 2, x.readings());
        x.advance(100);
        Checks.due("13 they stay", 2, x.readings());
    }

    private static void wrongReadings(String promise, int count, IntUnaryOperator call) {
        for (int reading : new int[] {-1, count, 80, Integer.MIN_VALUE, Integer.MAX_VALUE}) {
            Checks.noIndex(promise + " reading " + reading, () -> call.applyAsInt(reading));
        }
    }

    private static void wrongSensors(String promise, IntUnaryOperator call) {
        for (int sensor : NO_SENSOR) {
            Checks.noIndex(promise + " sensor " + sensor, () -> call.applyAsInt(sensor));
        }
    }

    private static void promise14StateOf() {
        SensorBond x = new SensorBond();
        wrongReadings("14", 0, x::stateOf);
        x.tell(0, 50);
        x.tell(1, 50);
        x.challenge(0, 1);
        x.setLoss(0, 2);
        x.tell(2, 50);
        Checks.due("14 FRESH", 0, x.stateOf(0));
        Checks.due("14 CHALLENGED", 1, x.stateOf(1));
        Checks.due("14 LOST", 4, x.stateOf(2));
        x.sample(0, 1, 0);
        x.advance(5);
        Checks.due("14 STOOD", 2, x.stateOf(0));
        Checks.due("14 LIE", 3, x.stateOf(1));
        Checks.due("14 LOST for ever", 4, x.stateOf(2));
        wrongReadings("14", 3, x::stateOf);
    }

    private static void promise15Parts() {
        SensorBond x = new SensorBond();
        wrongReadings("15", 0, x::parts);
        int[] due = {4, 3, 2, 2, 1};
        x.setLoss(2, 4);
        x.setLoss(3, 2);
        x.setLoss(4, 2);
        x.setLoss(5, 2);
        x.hang(5, 4);
        x.tell(1, 1);
        x.tell(2, 1);
        x.tell(3, 1);
        x.tell(4, 1);
        x.tell(5, 1);
        for (int i = 0; i < 5; i++) {
            Checks.due("15 parts", due[i], x.parts(i));
            Checks.due("15 state", due[i] >= 3 ? SensorBond.FRESH : SensorBond.LOST, x.stateOf(i));
        }
        SensorBond y = new SensorBond();
        y.hang(5, 4);
        y.hang(4, 3);
        y.setLoss(5, 2);
        y.setLoss(4, 2);
        y.setLoss(3, 2);
        y.tell(3, 1);
        y.setLoss(3, 2);
        y.tell(9, 1);
        y.tell(4, 1);
        y.setLoss(3, 2);
        y.advance(1);
        y.setLoss(2, 2);
        y.hang(3, 2);
        y.tell(2, 1);
        y.tell(5, 1);
        Checks.due("15 five and all but none left", 1, y.parts(4));
        y.setLoss(1, 2);
        y.hang(2, 1);
        y.setLoss(5, 2);
        y.setLoss(4, 2);
        y.setLoss(3, 2);
        y.setLoss(2, 2);
        y.tell(11, 1);
        Checks.due("15 four, two, one, and one that is the first", 1, y.parts(5));
        y.setLoss(5, 2);
        y.setLoss(4, 2);
        y.advance(1);
        y.tell(11, 1);
        Checks.due("15 the second one is lost", 0, y.parts(6));
        wrongReadings("15", 7, y::parts);
    }

    private static void promise16Users() {
        SensorBond x = new SensorBond();
        wrongReadings("16", 0, x::users);
        for (int buyer = 0; buyer < 6; buyer++) {
            x.open(buyer, 0, 1);
        }
        x.open(0, 1, 1);
        x.tell(0, 50);
        x.tell(1, 50);
        x.tell(2, 50);
        Checks.due("16 all", 6, x.users(0));
        Checks.due("16 one", 1, x.users(1));
        Checks.due("16 none", 0, x.users(2));
        x.advance(5);
        Checks.due("16 stays when it has STOOD", 6, x.users(0));
        x.open(4, 0, 1);
        int liar = Scenes.lie(x, 5);
        Checks.due("16 stays when it is a LIE", 1, x.users(liar));
        wrongReadings("16", 4, x::users);
    }

    private static void promise17Held() {
        SensorBond x = new SensorBond();
        wrongReadings("17", 0, x::held);
        x.setPrice(0, 3);
        x.open(0, 0, 2);
        x.setPrice(0, 5);
        x.open(1, 0, 1);
        x.tell(0, 50);
        x.tell(1, 50);
        Checks.due("17 the price of each", 8, x.held(0));
        Checks.due("17 none", 0, x.held(1));
        x.challenge(2, 0);
        Checks.due("17 the stake is not counted", 8, x.held(0));
        x.advance(4);
        Checks.due("17 held until the end", 8, x.held(0));
        x.advance(1);
        Checks.due("17 nothing when it has STOOD", 0, x.held(0));
        Checks.due("17 it went to the sensor", 12, x.earned(0));
        x.open(1, 0, 1);
        int liar = x.tell(0, 0);
        Checks.due("17 held again", 5, x.held(liar));
        x.challenge(1, liar);
        x.sample(4, liar, 99);
        x.sample(1, liar, 99);
        Checks.due("17 nothing for a LIE", 0, x.held(liar));
        wrongReadings("17", 3, x::held);
    }

    private static void promise18Middle() {
        int[][] givers = {{4, 30}, {6, 10}, {1, 20}, {9, 40}};
        int[] dues = {30, 10, 20, 20};
        SensorBond x = new SensorBond();
        wrongReadings("18", 0, x::middle);
        x.tell(5, 20);
        Checks.due("18 FRESH", SensorBond.NONE, x.middle(0));
        x.challenge(0, 0);
        Checks.due("18 no sample", SensorBond.NONE, x.middle(0));
        for (int i = 0; i < 4; i++) {
            x.sample(givers[i][0], 0, givers[i][1]);
            Checks.due("18 middle of " + (i + 1), dues[i], x.middle(0));
        }
        x.advance(9);
        Checks.due("18 stays", 20, x.middle(0));
        x.tell(5, 20);
        x.challenge(0, 1);
        x.advance(5);
        Checks.due("18 judged without samples", SensorBond.NONE, x.middle(1));
        x.tell(6, 0);
        x.challenge(0, 2);
        x.sample(2, 2, 0);
        Checks.due("18 a sample of 0", 0, x.middle(2));
        wrongReadings("18", 3, x::middle);
        allOrdersOfFour();
    }

    private static void allOrdersOfFour() {
        int[] values = {7, 11, 60, 99};
        int[] givers = {1, 4, 6, 9};
        for (int a = 0; a < 4; a++) {
            for (int b = 0; b < 4; b++) {
                for (int c = 0; c < 4; c++) {
                    if (a != b && b != c && a != c) {
                        SensorBond x = new SensorBond();
                        x.tell(5, 11);
                        x.challenge(0, 0);
                        x.sample(givers[0], 0, values[a]);
                        x.sample(givers[1], 0, values[b]);
                        x.sample(givers[2], 0, values[c]);
                        x.sample(givers[3], 0, values[6 - a - b - c]);
                        Checks.due("18 lower one of the middle ones", 11, x.middle(0));
                    }
                }
            }
        }
    }

    private static void promise19TextAt() {
        SensorBond x = new SensorBond();
        wrongReadings("19", 0, r -> x.textAt(r, 0));
        x.tell(0, 0);
        x.tell(11, 99);
        x.challenge(0, 1);
        x.setLoss(0, 2);
        x.tell(1, 10);
        Checks.due("19 FRESH", "a0.", Views.text(x, 0));
        Checks.due("19 CHALLENGED", "l99?", Views.text(x, 1));
        Checks.due("19 LOST", "b10x", Views.text(x, 2));
        x.sample(7, 1, 9);
        x.advance(5);
        Checks.due("19 STOOD", "a0+", Views.text(x, 0));
        Checks.due("19 LIE", "l99-", Views.text(x, 1));
        Checks.due("19 first sign", 'a', x.textAt(0, 0));
        Checks.due("19 second sign", '0', x.textAt(0, 1));
        Checks.due("19 last sign", '+', x.textAt(0, 2));
        Checks.due("19 behind the last one", SensorBond.NONE, x.textAt(0, 3));
        Checks.due("19 last sign of a longer one", '-', x.textAt(1, 3));
        Checks.due("19 far behind", SensorBond.NONE, x.textAt(1, Integer.MAX_VALUE));
        Checks.noIndex("19 place -1", () -> x.textAt(0, -1));
        Checks.noIndex("19 place far below 0", () -> x.textAt(0, Integer.MIN_VALUE));
        wrongReadings("19", 3, r -> x.textAt(r, 0));
    }

    private static void promise20Bond() {
        SensorBond x = Scenes.withEarned(10);
        Checks.due("20 first", 100, x.bond(0));
        x.topUp(0, 10);
        Checks.due("20 put", 110, x.bond(0));
        Scenes.lie(x, 0);
        Checks.due("20 cut", 106, x.bond(0));
        Checks.due("20 another sensor", 100, x.bond(1));
        wrongSensors("20", x::bond);
    }

    private static void promise21BondByCuts() {
        SensorBond x = Scenes.withEarned(10);
        Checks.due("21 first", 100, x.bondByCuts(0));
        x.topUp(0, 4);
        Checks.due("21 put", 104, x.bondByCuts(0));
        x.topUp(0, 6);
        Checks.due("21 put again", 110, x.bondByCuts(0));
        Scenes.lie(x, 0);
        Checks.due("21 cut", 106, x.bondByCuts(0));
        x.advance(1);
        x.setPrice(0, 20);
        Scenes.lie(x, 0);
        Checks.due("21 cut again", 26, x.bondByCuts(0));
        x.advance(1);
        Scenes.lie(x, 0);
        Checks.due("21 at most the bond", 0, x.bondByCuts(0));
        Checks.due("21 another sensor", 100, x.bondByCuts(1));
        SensorBond first = new SensorBond();
        Scenes.lie(first, 0);
        Checks.due("21 the very first reading", 96, first.bondByCuts(0));
        wrongSensors("21", x::bondByCuts);
    }

    private static void promise22Earned() {
        SensorBond x = Scenes.withEarned(10);
        Checks.due("22 what stood", 10, x.earned(0));
        x.topUp(0, 3);
        Checks.due("22 less what was put", 7, x.earned(0));
        x.tell(0, 1);
        x.challenge(0, 1);
        x.advance(5);
        Checks.due("22 and the stake", 11, x.earned(0));
        Checks.due("22 another sensor", 0, x.earned(1));
        wrongSensors("22", x::earned);
    }

    private static void promise23Mark() {
        SensorBond x = new SensorBond();
        x.tell(0, 50);
        Checks.due("23 FRESH", 0, x.mark(0));
        x.advance(5);
        Checks.due("23 STOOD", 1, x.mark(0));
        x.tell(0, 50);
        x.challenge(0, 1);
        Checks.due("23 CHALLENGED", 1, x.mark(0));
        x.advance(5);
        Checks.due("23 two STOOD", 2, x.mark(0));
        Scenes.lie(x, 0);
        Checks.due("23 a LIE", -1, x.mark(0));
        x.advance(1);
        Scenes.lie(x, 0);
        Checks.due("23 two LIES", -4, x.mark(0));
        x.advance(1);
        x.setLoss(0, 2);
        x.tell(0, 50);
        x.advance(5);
        Checks.due("23 LOST", -4, x.mark(0));
        Checks.due("23 another sensor", 0, x.mark(4));
        wrongSensors("23", x::mark);
    }

    private static void promise24Purse() {
        SensorBond x = new SensorBond();
        x.setPrice(0, 10);
        x.open(2, 0, 3);
        Checks.due("24 without what is aside", 170, x.purse(2));
        x.tell(0, 50);
        Checks.due("24 nor what is held", 170, x.purse(2));
        x.challenge(2, 0);
        Checks.due("24 nor the stake", 166, x.purse(2));
        x.advance(3);
        Checks.due("24 what was not used is back", 186, x.purse(2));
        x.sample(1, 0, 0);
        x.sample(4, 0, 0);
        Checks.due("24 price, stake, half of 80, a fourth of it", 186 + 10 + 4 + 40 + 20, x.purse(2));
        Checks.due("24 another buyer", 200, x.purse(3));
        for (int buyer : NO_SIX) {
            Checks.noIndex("24 buyer " + buyer, () -> x.purse(buyer));
        }
    }

    private static void promise25Aside() {
        SensorBond x = new SensorBond();
        x.setPrice(11, 10);
        x.open(5, 11, 3);
        Checks.due("25 all", 30, x.aside(5, 11));
        x.tell(11, 50);
        Checks.due("25 less what was used", 20, x.aside(5, 11));
        x.advance(2);
        x.tell(11, 50);
        Checks.due("25 again", 10, x.aside(5, 11));
        Checks.due("25 another buyer", 0, x.aside(4, 11));
        Checks.due("25 another sensor", 0, x.aside(5, 10));
        x.advance(1);
        Checks.due("25 closed", 0, x.aside(5, 11));
        for (int buyer : NO_SIX) {
            Checks.noIndex("25 buyer " + buyer, () -> x.aside(buyer, 0));
        }
        wrongSensors("25", s -> x.aside(0, s));
    }

    private static void promise26House() {
        SensorBond x = new SensorBond();
        Scenes.lie(x, 0);
        Checks.due("26 three of 4", 3, x.house());
        x.advance(1);
        Scenes.lie(x, 0);
        Checks.due("26 and again", 6, x.house());
        x.advance(1);
        x.open(1, 0, 1);
        Scenes.lie(x, 0);
        Checks.due("26 two of 8", 8, x.house());
        x.tell(3, 1);
        x.challenge(0, 3);
        x.advance(50);
        Checks.due("26 nothing of what stood", 8, x.house());
    }
}
