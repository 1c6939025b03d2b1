/** The edges of promises 20 to 23: what is best. */
final class EdgesOfBest {
    private static final String ONE_MELTS = "melts 1;feels weight;chills 0;";
    private static final long NO = IcedTooSoon.NO;
    private static final int LEAST = Integer.MIN_VALUE, MOST = Integer.MAX_VALUE;

    private EdgesOfBest() {
    }

    static void all() {
        again();
        againOfLikeOnes();
        againRefuses();
        spilt();
        spiltRefuses();
        round();
        roundOfLikeOnes();
        roundOfTen();
        roundRefuses();
        mean();
    }

    private static void again() {
        Doc.says(20, "The GLASS such that, were its ICE much (1 .. 99) more (99 at most) now, MOOD of all, together,"
                + " would be most behind n DAYS (1 .. 20),");
        Run x = Run.under(ONE_MELTS).then("guest(0, 0)", "guest(0, 0)", "order(0, -3, 1)", "order(1, -4, 20)");
        x.asks("again(1, 1, 0)", 0).asks("again(1, 1, 1)", 0).asks("again(1, 2, 0)", -1).asks("again(1, 2, 1)", -3);
        x.asks("again(1, 20, 0)", 1).asks("again(1, 20, 1)", -3).asks("again(99, 20, 0)", 1).asks("again(19, 19, 0)", 0)
                .asks("again(18, 19, 0)", -1).asks("again(19, 20, 0)", 1);
        // 99 at most: 50 and 99 is no more than 99
        Run y = Run.of("guest(0, 0)", "order(0, -3, 50)");
        y.asks("again(99, 9, 0)", 0).asks("again(99, 10, 0)", -1).asks("again(49, 9, 0)", 0).asks("again(40, 9, 0)", -1)
                .asks("again(41, 9, 0)", 0);
        Run.of("guest(0, 0)", "order(0, -3, 99)").asks("again(99, 10, 0)", -1).asks("again(99, 10, 1)", -3);
        Run z = Run.of("guest(0, 0)");
        for (int g = 0; g < 10; g++) {
            z.then("order(0, " + (g - 15) + ", " + (g == 9 ? 10 : 99) + ")");
        }
        z.asks("again(1, 1, 0)", 9).asks("again(1, 1, 1)", 0);
    }

    private static void againOfLikeOnes() {
        Doc.says(20, "if more than so, of like ones the first (what 0; -1: none), that (1; as so).");
        Run x = Run.under(ONE_MELTS).then("guest(0, 0)", "guest(0, 0)", "order(0, 5, 1)", "order(0, -3, 1)", "order(1, -3, 1)",
                "order(0, 0, 1)");
        x.asks("again(9, 1, 0)", 1).asks("again(9, 1, 1)", 2).then("spill(1)").asks("again(9, 1, 0)", 2).asks("again(9, 1, 1)", 5);
        x.then("spill(2)").asks("again(9, 1, 0)", -1).asks("again(9, 1, 1)", 5);
        x.then("order(1, -1, 1)", "order(1, -2, 1)").asks("again(9, 1, 0)", 2).asks("again(9, 1, 1)", 4);
        new Run().asks("again(1, 1, 0)", -1).asks("again(99, 20, 1)", 0);
        Run.of("guest(0, -9)").asks("again(1, 1, 0)", -1).asks("again(1, 1, 1)", -9);
    }

    private static void againRefuses() {
        Doc.says(20, "-1000: much, n, what.");
        Run x = EdgesOfGuests.house();
        for (int much : new int[] {0, 100, -1, LEAST, MOST}) {
            x.refuses("again(" + much + ", 1, 0)", -1000);
        }
        for (int n : new int[] {0, 21, -1, LEAST, MOST}) {
            x.refuses("again(1, " + n + ", 0)", -1000);
        }
        for (int what : new int[] {-1, 2, LEAST, MOST}) {
            x.refuses("again(1, 1, " + what + ")", -1000);
        }
    }

    private static void spilt() {
        Doc.says(21, "The GLASS such that, weren't it there now, that would be most, if more than so, of like ones the first"
                + " (what 0; -1: none), that (1; as so).");
        Run x = Run.under(ONE_MELTS).then("guest(0, 0)", "guest(0, 0)", "order(0, -3, 1)", "order(1, -4, 20)", "order(1, -9, 21)");
        x.asks("spilt(1, 0)", 0).asks("spilt(1, 1)", 0).asks("spilt(19, 0)", 0).asks("spilt(20, 0)", 1).asks("spilt(20, 1)", -3);
        Run y = Run.under(ONE_MELTS).then("guest(0, 0)", "guest(0, 0)", "order(0, 5, 1)", "order(1, -3, 1)", "order(0, -3, 1)");
        y.asks("spilt(1, 0)", 1).asks("spilt(1, 1)", 2).then("spill(1)").asks("spilt(1, 0)", 2).asks("spilt(1, 1)", 5);
        y.then("spill(2)").asks("spilt(1, 0)", -1).asks("spilt(1, 1)", 5).then("order(0, 0, 1)").asks("spilt(20, 0)", -1);
        new Run().asks("spilt(1, 0)", -1).asks("spilt(20, 1)", 0);
        Run.of("guest(0, -9)").asks("spilt(1, 0)", -1).asks("spilt(1, 1)", -9);
        Run z = Run.of("guest(0, 0)");
        for (int g = 0; g < 10; g++) {
            z.then("order(0, -1, " + (g == 9 ? 10 : 99) + ")");
        }
        z.asks("spilt(1, 0)", 9).asks("spilt(1, 1)", 0).asks("spilt(10, 0)", 0).asks("spilt(10, 1)", -9);
    }

    private static void spiltRefuses() {
        Doc.says(21, "-1000: n, what.");
        Run x = EdgesOfGuests.house();
        for (int n : new int[] {0, 21, -1, LEAST, MOST}) {
            x.refuses("spilt(" + n + ", 0)", -1000);
        }
        for (int what : new int[] {-1, 2, LEAST, MOST}) {
            x.refuses("spilt(1, " + what + ")", -1000);
        }
    }

    private static void round() {
        Doc.says(22, "Of all sets of GLASSES that are there that such that, were ICE of each much (1 .. 99) more"
                + " (99 at most) now, that would be most behind n DAYS (1 .. 10),");
        new Run().asks("round(1, 1, 0)", 0).asks("round(99, 10, 1)", 0);
        Run.of("guest(0, -9)").asks("round(1, 1, 0)", 0).asks("round(1, 1, 1)", -9);
        Run x = Run.under(ONE_MELTS).then("guest(0, 0)", "guest(0, 0)", "order(0, -3, 1)", "order(1, -4, 10)", "order(0, 5, 1)",
                "order(1, -7, 11)");
        x.asks("round(1, 1, 0)", 1).asks("round(1, 1, 1)", 5).asks("round(1, 2, 0)", 0).asks("round(1, 2, 1)", 2);
        x.asks("round(1, 10, 0)", 2).asks("round(1, 10, 1)", 2).asks("round(10, 10, 0)", 3).asks("round(9, 10, 0)", 2)
                .asks("round(99, 10, 0)", 3).asks("round(99, 10, 1)", 5);
        // 99 at most
        Run y = Run.of("guest(0, 0)", "order(0, -3, 50)", "order(0, -3, 99)");
        y.asks("round(99, 9, 0)", 1).asks("round(99, 10, 0)", 0).asks("round(99, 10, 1)", -6).asks("round(40, 9, 0)", 0)
                .asks("round(41, 9, 0)", 1);
    }

    private static void roundOfLikeOnes() {
        Doc.says(22, "of like ones that of fewest, of these the first by GLASS 0, 1, ..: not of it ahead of of it"
                + " (what 0; bits), that (1).");
        // 99 anyway: of none
        Run.of("guest(0, 99)", "order(0, -1, 5)", "order(0, 1, 5)").asks("round(50, 1, 0)", 0).asks("round(50, 1, 1)", 99);
        // whoever is felt first is felt as 7, the next as -2: any but one are iced; the last is felt
        String first = "melts 10;feels (mood=0)*7-(mood=7)*9;chills 0;";
        Run x = Run.under(first).then("guest(0, 0)", "guest(0, 0)", "order(0, 0, 5)", "order(0, 0, 5)");
        x.asks("round(50, 1, 0)", 2).asks("round(50, 1, 1)", 7);
        x.then("order(1, 0, 5)", "order(1, 0, 5)").asks("round(50, 1, 0)", 10).asks("round(50, 1, 1)", 14);
        // of {0} and {1} for one, and {2} and {3} for the other: not of 0 ahead of of 0
        Run.under("melts 10;feels (mood=0)*7-(mood=7)*9;chills 0;").then("guest(0, 0)", "guest(0, 0)", "order(0, 0, 5)",
                "order(1, 0, 5)", "order(1, 0, 5)", "order(0, 0, 5)").asks("round(50, 1, 0)", 12).asks("round(50, 1, 1)", 14);
        // fewest is told ahead of the first: {0}, not {1, 2}; {2}, not {0, 1}
        String ten = "melts 10;feels weight-50*(mood=10)-50*(mood=5)*(weight=10);chills 0;";
        Run.under(ten).then("guest(0, 0)", "order(0, 10, 5)", "order(0, 5, 5)", "order(0, 5, 5)").asks("round(50, 1, 0)", 1)
                .asks("round(50, 1, 1)", 10);
        Run.under(ten).then("guest(0, 0)", "order(0, 5, 5)", "order(0, 5, 5)", "order(0, 10, 5)").asks("round(50, 1, 0)", 4)
                .asks("round(50, 1, 1)", 10);
        // 1 and 4, or 2 and 3, are felt together as 50: {1, 2} ahead of {0, 3}, whatever their weights' order
        String five = "melts 10;feels weight*(mood=0)+(0<mood)*(100*(mood+weight=5)+weight-55);chills 0;";
        Run.under(five).then("guest(0, 0)", "order(0, 1, 5)", "order(0, 2, 5)", "order(0, 3, 5)", "order(0, 4, 5)")
                .asks("round(50, 1, 0)", 6).asks("round(50, 1, 1)", 50);
        Run.under(five).then("guest(0, 0)", "order(0, 2, 5)", "order(0, 1, 5)", "order(0, 4, 5)", "order(0, 3, 5)")
                .asks("round(50, 1, 0)", 6).asks("round(50, 1, 1)", 50);
        Run.under(five).then("guest(0, 0)", "order(0, 1, 5)", "order(0, 2, 5)", "order(0, 4, 5)", "order(0, 3, 5)")
                .asks("round(50, 1, 0)", 10).asks("round(50, 1, 1)", 50);
    }

    private static void roundOfTen() {
        Run all = Run.of("guest(0, 0)");
        Run none = Run.of("guest(0, -99)");
        Run ends = Run.of("guest(0, 0)");
        for (int g = 0; g < 10; g++) {
            all.then("order(0, -1, 10)");
            none.then("order(0, 1, 10)");
            ends.then("order(0, " + (g == 0 || g == 9 ? -1 : 1) + ", 10)");
        }
        all.asks("round(1, 1, 0)", 1023).asks("round(1, 1, 1)", 0).then("spill(0)", "spill(9)").asks("round(1, 1, 0)", 510)
                .asks("round(10, 1, 1)", 0).asks("round(1, 2, 0)", 0).asks("round(1, 2, 1)", -8);
        none.asks("round(1, 1, 0)", 0).asks("round(1, 1, 1)", -89);
        ends.asks("round(1, 1, 0)", 513).asks("round(1, 1, 1)", 8);
        // one is to be felt, of ten: the first nine are not, but for the last
        Run one = Run.under("melts 10;feels (mood=0)*7-(mood=7)*9;chills 0;").then("guest(0, 0)");
        for (int g = 0; g < 10; g++) {
            one.then("order(0, 0, 5)");
        }
        one.asks("round(50, 1, 0)", 1022).asks("round(50, 1, 1)", 7);
    }

    private static void roundRefuses() {
        Doc.says(22, "-1000: much, n, what.");
        Run x = EdgesOfGuests.house();
        for (int much : new int[] {0, 100, -1, LEAST, MOST}) {
            x.refuses("round(" + much + ", 1, 0)", -1000);
        }
        for (int n : new int[] {0, 11, -1, LEAST, MOST}) {
            x.refuses("round(1, " + n + ", 0)", -1000);
        }
        for (int what : new int[] {-1, 2, LEAST, MOST}) {
            x.refuses("round(1, 1, " + what + ")", -1000);
        }
    }

    private static void mean() {
        Doc.says(23, "WEIGHT of all GLASSES, together, by how many there are: part 0 above, 1 below the line (above 0),"
                + " in lowest terms.");
        Run x = Run.of("guest(0, 0)", "guest(0, 0)", "order(0, 0, 5)").asks("mean(0)", 0).asks("mean(1)", 1);
        x.then("order(1, 0, 5)").asks("mean(0)", 0).asks("mean(1)", 1).then("order(1, -1, 5)").asks("mean(0)", -1)
                .asks("mean(1)", 3);
        x.then("order(0, -5, 5)").asks("mean(0)", -3).asks("mean(1)", 2).then("order(0, 7, 5)").asks("mean(0)", 1).asks("mean(1)", 5);
        x.then("order(0, 3, 5)").asks("mean(0)", 2).asks("mean(1)", 3).then("spill(0)").asks("mean(0)", 4).asks("mean(1)", 5);
        Run low = Run.of("guest(0, 0)");
        Run high = Run.of("guest(0, 0)");
        for (int g = 0; g < 10; g++) {
            low.then("order(0, -99, 5)");
            high.then("order(0, " + (g == 9 ? 98 : 99) + ", 5)");
        }
        low.asks("mean(0)", -99).asks("mean(1)", 1).then("spill(0)", "order(0, -98, 5)").asks("mean(0)", -989).asks("mean(1)", 10);
        high.asks("mean(0)", 989).asks("mean(1)", 10);
        Run.of("guest(0, 0)", "order(0, -99, 5)").asks("mean(0)", -99).asks("mean(1)", 1);
        // only of those that are there: not spilt, not gone off
        Run.of("guest(0, 0)", "order(0, 50, 5)", "order(0, 7, 50)", "order(0, 4, 50)").then("spill(2)").asks("mean(0)", 57)
                .asks("mean(1)", 2).then("day()").asks("mean(0)", 7).asks("mean(1)", 1);

        Doc.says(23, "NO: part, there are none.");
        for (int part : new int[] {-1, 2, LEAST, MOST}) {
            x.refuses("mean(" + part + ")", NO);
            new Run().refuses("mean(" + part + ")", NO);
        }
        new Run().refuses("mean(0)", NO).refuses("mean(1)", NO);
        Run.of("guest(0, 0)", "order(0, 1, 5)", "day()").refuses("mean(0)", NO).refuses("mean(1)", NO);
    }
}
