/** Tests of the terms that tell of windows, challenges, cuts and the ends of ticks. */
final class MarketTerms {
    private MarketTerms() {
    }

    // ---- windows

    static void openings() {
        int[][] cases = {{1, 1}, {1, 20}, {10, 20}, {20, 1}, {20, 10}, {7, 3}};
        for (int[] c : cases) {
            SensorBond x = new SensorBond();
            x.advance(3);
            x.setPrice(0, c[0]);
            Checks.due("this tick is the first of " + c[1], 2 + c[1], x.open(0, 0, c[1]));
            Checks.due("aside", c[0] * c[1], x.aside(0, 0));
            Checks.due("from the purse", 200 - c[0] * c[1], x.purse(0));
        }
        SensorBond dear = new SensorBond();
        dear.setPrice(0, 20);
        Checks.badState("220 is more than the purse", () -> dear.open(0, 0, 11));
        Checks.due("none of it is set aside", 0, dear.aside(0, 0));
    }

    static void uses() {
        SensorBond x = new SensorBond();
        x.setPrice(0, 5);
        x.tell(0, 50);
        x.open(0, 0, 3);
        x.setPrice(0, 8);
        x.open(1, 0, 1);
        Checks.due("ahead of the opening, in its tick", 0, x.users(0));
        x.advance(1);
        x.tell(0, 50);
        x.tell(1, 50);
        Checks.due("within", 1, x.users(1));
        Checks.due("by the price of the opening", 5, x.held(1));
        Checks.due("of what is set aside", 10, x.aside(0, 0));
        Checks.due("another sensor", 0, x.users(2));
        x.advance(1);
        x.tell(0, 50);
        Checks.due("in the last tick", 1, x.users(3));
        Checks.due("the rest is aside", 5, x.aside(0, 0));
        x.advance(1);
        x.tell(0, 50);
        Checks.due("behind the last tick", 0, x.users(4));

        SensorBond y = new SensorBond();
        y.open(0, 0, 1);
        y.open(1, 0, 20);
        y.setLoss(0, 4);
        y.tell(0, 50);
        Checks.due("in the first tick, with three parts", 2, y.users(0));
        Checks.due("all of a window of one tick", 0, y.aside(0, 0));
        y.setLoss(0, 2);
        y.advance(1);
        y.tell(0, 50);
        Checks.due("a LOST one is not used", 0, y.users(1));
        Checks.due("nor held for", 0, y.held(1));
        Checks.due("nor paid", 19, y.aside(1, 0));
    }

    static void closings() {
        SensorBond x = new SensorBond();
        x.setPrice(0, 5);
        x.open(0, 0, 3);
        x.tell(0, 50);
        x.advance(2);
        Checks.due("aside in the last tick", 10, x.aside(0, 0));
        Checks.due("not back yet", 185, x.purse(0));
        x.advance(1);
        Checks.due("nothing aside", 0, x.aside(0, 0));
        Checks.due("two of three are back", 195, x.purse(0));

        SensorBond y = new SensorBond();
        y.open(0, 0, 1);
        y.open(1, 0, 1);
        y.tell(0, 50);
        y.open(2, 0, 1);
        y.open(3, 0, 20);
        y.advance(1);
        Checks.due("all of it was used", 199, y.purse(0));
        Checks.due("none of it was used", 200, y.purse(2));
        y.advance(18);
        Checks.due("nineteen of twenty ticks", 20, y.aside(3, 0));
        y.advance(1);
        Checks.due("twenty", 0, y.aside(3, 0));
        Checks.due("all back", 200, y.purse(3));
    }

    static void oneWindow() {
        Refusals.state("a second one", Scenes::busy, x -> x.open(0, 0, 1));
        SensorBond x = new SensorBond();
        x.open(0, 0, 2);
        x.tell(0, 50);
        Checks.due("on another sensor", 0, x.open(0, 1, 1));
        Checks.due("of another buyer", 0, x.open(1, 0, 1));
        x.advance(1);
        x.tell(0, 50);
        Checks.due("all is used", 0, x.aside(0, 0));
        Checks.badState("but its last tick goes on", () -> x.open(0, 0, 1));
        x.advance(1);
        Checks.due("when it is closed", 2, x.open(0, 0, 1));
    }

    // ---- challenges

    static void stakes() {
        SensorBond x = new SensorBond();
        x.tell(0, 50);
        x.challenge(0, 0);
        Checks.due("the stake", 196, x.purse(0));
        Checks.due("the state", SensorBond.CHALLENGED, x.stateOf(0));
        SensorBond y = Scenes.withPurse(4);
        y.tell(0, 50);
        y.challenge(0, 0);
        Checks.due("a purse of 4 is enough", 0, y.purse(0));
        SensorBond z = Scenes.withPurse(3);
        z.tell(0, 50);
        Checks.badState("a purse of 3 is not", () -> z.challenge(0, 0));
        int[] notFresh = {Scenes.STOOD_ONE, Scenes.LIE_ONE, Scenes.LOST_ONE, Scenes.CHALLENGED_ONE};
        for (int reading : notFresh) {
            Refusals.state("reading " + reading, Scenes::busy, w -> w.challenge(0, reading));
        }
        Checks.due("the FRESH one", 4, Scenes.busy().challenge(0, Scenes.FRESH_ONE));
    }

    static void samples() {
        Refusals.argumentRange(0, 99, Scenes::busy, (x, value) -> x.sample(4, Scenes.CHALLENGED_ONE, value));
        for (int sensor : new int[] {0, 2, 3, 5, 7, 8, 10, 11}) {
            Refusals.state("no neighbour " + sensor, Scenes::busy,
                x -> x.sample(sensor, Scenes.CHALLENGED_ONE, 20));
        }
        Refusals.state("a second one", Scenes::busy, x -> x.sample(1, Scenes.CHALLENGED_ONE, 40));
        SensorBond x = new SensorBond();
        x.tell(1, 50);
        x.tell(4, 50);
        x.challenge(0, 0);
        x.challenge(0, 1);
        Checks.due("one", SensorBond.CHALLENGED, x.sample(0, 0, 50));
        Checks.due("one for another reading", SensorBond.CHALLENGED, x.sample(0, 1, 50));
    }

    static void judgedInTime() {
        int[][] corner = {{0}, {1, 4}};
        int[][] edge = {{4}, {0, 8, 5}};
        int[][] inner = {{6}, {2, 5, 10, 7}};
        for (int[][] place : new int[][][] {corner, edge, inner}) {
            SensorBond x = new SensorBond();
            x.tell(place[0][0], 50);
            x.challenge(0, 0);
            for (int i = 0; i < place[1].length; i++) {
                int due = i == place[1].length - 1 ? SensorBond.STOOD : SensorBond.CHALLENGED;
                Checks.due("sample " + i, due, x.sample(place[1][i], 0, 50));
            }
        }
        for (int wait = 0; wait < 5; wait++) {
            SensorBond x = new SensorBond();
            x.tell(0, 50);
            for (int i = 0; i < wait; i++) {
                x.advance(1);
            }
            x.challenge(0, 0);
            x.sample(1, 0, 0);
            x.advance(4);
            Checks.due("in the fifth tick", SensorBond.CHALLENGED, x.stateOf(0));
            x.advance(1);
            Checks.due("when it has ended", SensorBond.LIE, x.stateOf(0));
        }
        SensorBond late = new SensorBond();
        late.tell(0, 50);
        late.challenge(0, 0);
        late.advance(4);
        late.sample(1, 0, 50);
        Checks.due("all samples in the fifth tick", SensorBond.STOOD, late.sample(4, 0, 50));
        SensorBond slow = new SensorBond();
        slow.tell(0, 50);
        slow.challenge(0, 0);
        slow.advance(5);
        Checks.badState("no sample behind it", () -> slow.sample(1, 0, 50));
    }

    static void middles() {
        int[][] cases = {{70}, {70, 20}, {20, 70}, {70, 20, 40}, {0, 99, 98, 1}, {99, 98, 1, 0}, {5, 5, 5, 5},
            {9, 3, 9, 3}, {3, 9, 9, 9}, {0, 0}};
        int[] due = {70, 20, 20, 40, 1, 1, 5, 3, 9, 0};
        int[] givers = {1, 4, 6, 9};
        for (int i = 0; i < cases.length; i++) {
            SensorBond x = new SensorBond();
            x.tell(5, 50);
            x.challenge(0, 0);
            for (int j = 0; j < cases[i].length; j++) {
                x.sample(givers[j], 0, cases[i][j]);
            }
            Checks.due("middle of case " + i, due[i], x.middle(0));
            x.advance(5);
            Checks.due("judged by it", SensorBond.LIE, x.stateOf(0));
        }
        SensorBond lower = new SensorBond();
        lower.tell(0, 20);
        lower.challenge(0, 0);
        lower.sample(1, 0, 99);
        Checks.due("by the lower one of two", SensorBond.STOOD, lower.sample(4, 0, 25));
    }

    static void differences() {
        int[][] stand = {{50, 55}, {50, 45}, {50, 50}, {0, 5}, {99, 94}, {0, 0}, {99, 99}};
        int[][] lies = {{50, 56}, {50, 44}, {0, 6}, {99, 93}, {0, 99}, {99, 0}};
        for (int[] c : stand) {
            SensorBond x = challenged(c[0]);
            Checks.due(c[0] + " by " + c[1], SensorBond.STOOD, Scenes.judge(x, 0, c[1]));
            Checks.due("the stake is the sensor's", 4, x.earned(0));
            Checks.due("not the challenger's", 196, x.purse(0));
            Checks.due("no cut", 100, x.bond(0));
        }
        for (int[] c : lies) {
            SensorBond x = challenged(c[0]);
            Checks.due(c[0] + " by " + c[1], SensorBond.LIE, Scenes.judge(x, 0, c[1]));
            Checks.due("no stake for the sensor", 0, x.earned(0));
            Checks.due("a cut", 96, x.bond(0));
        }
        SensorBond none = challenged(99);
        none.advance(5);
        Checks.due("no samples", SensorBond.STOOD, none.stateOf(0));
        Checks.due("and the stake", 4, none.earned(0));
        SensorBond one = challenged(0);
        one.sample(4, 0, 6);
        one.advance(5);
        Checks.due("one sample", SensorBond.LIE, one.stateOf(0));
    }

    private static SensorBond challenged(int value) {
        SensorBond x = new SensorBond();
        x.tell(0, value);
        x.challenge(0, 0);
        return x;
    }

    // ---- settling

    static void standsInTime() {
        for (int first = 0; first < 3; first++) {
            SensorBond x = new SensorBond();
            for (int i = 0; i < first; i++) {
                x.advance(1);
            }
            x.tell(0, 50);
            x.advance(4);
            Checks.due("in the fifth tick", SensorBond.FRESH, x.stateOf(0));
            x.advance(1);
            Checks.due("when it has ended", SensorBond.STOOD, x.stateOf(0));
        }
        SensorBond y = new SensorBond();
        y.tell(0, 50);
        y.advance(4);
        Checks.due("it can be challenged in the fifth", 2, y.challenge(0, 0));
        SensorBond z = new SensorBond();
        z.tell(0, 50);
        z.advance(5);
        Checks.badState("and not behind it", () -> z.challenge(0, 0));
        SensorBond w = new SensorBond();
        w.tell(0, 50);
        w.advance(100);
        Checks.due("in one go", SensorBond.STOOD, w.stateOf(0));
    }

    static void heldForTheSensor() {
        SensorBond x = new SensorBond();
        for (int buyer = 0; buyer < 6; buyer++) {
            x.setPrice(0, buyer + 1);
            x.open(buyer, 0, 1);
        }
        x.tell(0, 50);
        x.tell(1, 50);
        x.advance(4);
        Checks.due("held", 21, x.held(0));
        Checks.due("not paid yet", 0, x.earned(0));
        x.advance(1);
        Checks.due("nothing held", 0, x.held(0));
        Checks.due("paid", 21, x.earned(0));
        Checks.due("nobody used that", 0, x.earned(1));
        Checks.due("a buyer has paid", 194, x.purse(5));
        x.advance(5);
        Checks.due("once", 21, x.earned(0));

        SensorBond y = new SensorBond();
        y.open(1, 0, 1);
        y.tell(0, 50);
        y.challenge(0, 0);
        Scenes.judge(y, 0, 50);
        Checks.due("with the stake, if it was challenged", 5, y.earned(0));
    }

    static void heldGoesBack() {
        SensorBond x = new SensorBond();
        x.open(0, 0, 2);
        x.setPrice(0, 20);
        x.open(1, 0, 1);
        x.setPrice(0, 1);
        Scenes.lie(x, 2);
        Checks.due("1 back, and 3 of the cut of 12", 198 + 1 + 3, x.purse(0));
        Checks.due("20 back, and 3", 180 + 20 + 3, x.purse(1));
        Checks.due("not to the window", 1, x.aside(0, 0));
        Checks.due("nothing held", 0, x.held(0));
        Checks.due("the stake back, and 3", 203, x.purse(2));
        Checks.due("nothing to the sensor", 0, x.earned(0));
        x.advance(2);
        Checks.due("the window's rest", 203, x.purse(0));
    }

    // ---- cuts

    static void cutsAndBonds() {
        int[][] cases = {
            {1, 0, 96}, {1, 6, 72}, {20, 0, 20}, {5, 4, 0}, {6, 3, 4}, {12, 1, 4}, {13, 1, 0},
            {8, 2, 4}, {9, 2, 0}, {20, 6, 0},
        };
        for (int[] c : cases) {
            SensorBond x = new SensorBond();
            for (int buyer = 0; buyer < c[1]; buyer++) {
                x.open(buyer, 0, 1);
            }
            x.tell(0, 0);
            x.challenge(0, 0);
            x.sample(1, 0, 99);
            x.setPrice(0, c[0]);
            x.sample(4, 0, 99);
            Checks.due("price " + c[0] + ", users " + c[1], c[2], x.bond(0));
            Checks.due("the same by cuts", c[2], x.bondByCuts(0));
        }
        SensorBond later = new SensorBond();
        later.tell(0, 0);
        later.challenge(0, 0);
        later.sample(1, 0, 99);
        later.advance(4);
        later.setPrice(0, 3);
        later.advance(1);
        later.setPrice(0, 5);
        Checks.due("the price when the fifth tick ends", 88, later.bond(0));
    }

    static void shares() {
        // how many use it at the price 2, what each gets, what the challenger gets, and the house
        int[][] byUsers = {{1, 8, 4, 4}, {2, 6, 6, 6}, {3, 5, 8, 9}, {4, 5, 10, 10}, {5, 4, 12, 16}, {6, 4, 14, 18}};
        for (int[] c : byUsers) {
            SensorBond x = new SensorBond();
            x.setPrice(0, 2);
            for (int buyer = 0; buyer < c[0]; buyer++) {
                x.open(buyer, 0, 1);
            }
            Scenes.lie(x, 0);
            Checks.due("the challenger, one of " + c[0], 200 + c[1] + c[2], x.purse(0));
            for (int buyer = 1; buyer < 6; buyer++) {
                Checks.due("buyer " + buyer + " of " + c[0], buyer < c[0] ? 200 + c[1] : 200, x.purse(buyer));
            }
            Checks.due("the house, of " + c[0], c[3], x.house());
        }
        // the cut, its half, its fourth, and what is left
        int[][] byCuts = {{1, 0, 0, 1}, {2, 1, 0, 1}, {3, 1, 0, 2}, {4, 2, 1, 1}, {5, 2, 1, 2}, {6, 3, 1, 2},
            {7, 3, 1, 3}, {8, 4, 2, 2}, {19, 9, 4, 6}, {20, 10, 5, 5}};
        for (int[] c : byCuts) {
            SensorBond x = withCut(c[0]);
            Checks.due("the bond", 0, x.bond(0));
            Checks.due("the user, of " + c[0], 250 + c[1], x.purse(1));
            Checks.due("the challenger, of " + c[0], 225 + c[2], x.purse(2));
            Checks.due("the house, of " + c[0], 25 + c[3], x.house());
        }
    }

    /** A lie with a cut of 100, and one with so small a cut, 1 to 20; both used by buyer 1, challenged by buyer 2. */
    private static SensorBond withCut(int cut) {
        SensorBond x = Scenes.withEarned(20);
        x.setPrice(0, 20);
        x.open(1, 0, 2);
        x.tell(0, 0);
        x.advance(1);
        x.tell(0, 0);
        x.challenge(2, 1);
        x.challenge(2, 2);
        Scenes.judge(x, 1, 99);
        x.topUp(0, cut);
        Scenes.judge(x, 2, 99);
        return x;
    }

    static void nobodyUsedIt() {
        SensorBond x = new SensorBond();
        x.setPrice(0, 20);
        Scenes.lie(x, 3);
        Checks.due("a fourth of 80", 220, x.purse(3));
        Checks.due("the half is left for the house", 60, x.house());
        Checks.due("nothing for others", 200, x.purse(0));
        SensorBond y = new SensorBond();
        y.tell(0, 0);
        y.open(1, 0, 1);
        y.challenge(3, 0);
        Scenes.judge(y, 0, 99);
        Checks.due("a window opened behind it is no use", 199, y.purse(1));
        Checks.due("three of four", 3, y.house());
    }
    // ---- how a tick ends

    static void endOfATick() {
        SensorBond x = twoLies();
        x.challenge(2, 1);
        x.challenge(3, 0);
        x.sample(1, 1, 99);
        x.sample(1, 0, 99);
        x.advance(5);
        Checks.due("the lower number first: a fourth of 72", 218, x.purse(3));
        Checks.due("then the other one: a fourth of 28", 207, x.purse(2));
        Checks.due("its user has the half of 28", 214, x.purse(1));

        SensorBond y = twoLies();
        y.challenge(2, 1);
        y.sample(1, 1, 99);
        y.advance(1);
        y.challenge(3, 0);
        y.sample(1, 0, 99);
        y.advance(10);
        Checks.due("an earlier tick first: a fourth of 100", 225, y.purse(2));
        Checks.due("then nothing is left", 200, y.purse(3));

        SensorBond z = new SensorBond();
        z.open(0, 0, 5);
        z.open(0, 1, 6);
        z.tell(0, 50);
        z.advance(1);
        z.tell(0, 50);
        z.advance(3);
        z.tell(0, 50);
        z.advance(1);
        Checks.due("it was time for the first", SensorBond.STOOD, z.stateOf(0));
        Checks.due("not yet for the next", SensorBond.FRESH, z.stateOf(1));
        Checks.due("the window is closed", 0, z.aside(0, 0));
        Checks.due("the other one is not", 6, z.aside(0, 1));
        Checks.due("what is left of it is back", 200 - 5 - 6 + 2, z.purse(0));
        Checks.due("what it used in its last tick stays held", 1, z.held(2));
        z.advance(1);
        Checks.due("the next one", SensorBond.STOOD, z.stateOf(1));
        Checks.due("the other window", 0, z.aside(0, 1));
    }

    /** At the price 18: a reading that nobody used, and, a tick later, one that buyer 1 used. */
    private static SensorBond twoLies() {
        SensorBond x = new SensorBond();
        x.setPrice(0, 18);
        x.tell(0, 0);
        x.advance(1);
        x.open(1, 0, 1);
        x.tell(0, 0);
        return x;
    }
}
