import java.util.ArrayList;
import java.util.Arrays;
import java.util.List;

/** The sentences on shrinking: which candidates there are, in which order, and which one becomes the failure. */
final class ShrinkingSentences extends Sentences {
    static void all() {
        sentence("A row is less than another one if it is shorter, or as long and less at the first place at which "
                + "they differ.", ShrinkingSentences::isLess);
        sentence("To shrink the failure, candidates are tried in this order: for 8, 4, 2, 1 in turn, and from the last "
                + "place at which so many draws can be left out to the place 0, the row without these;",
                ShrinkingSentences::without);
        sentence("then, for each place, rising, if the draw is not 0, the row with 0 there, with its half, cut, with 1 "
                + "less;", ShrinkingSentences::lower);
        sentence("then, for each place, rising, if the draw is greater than the next one, both exchanged;",
                ShrinkingSentences::exchanged);
        sentence("then, for each two places, the first one rising, then the second one, neither draw being 0, both 1 "
                + "less.", ShrinkingSentences::bothLower);
        sentence("Each one is replayed; if it is not discarded, breaks the property with the same class, and its row "
                + "is less, it becomes the failure, and all begins anew.", ShrinkingSentences::becomesTheFailure);
        sentence("Candidates that are alike are each tried, and counted.", ShrinkingSentences::alikeAreCounted);
        sentence("It ends when no candidate is left, or so many were tried as told.", ShrinkingSentences::ends);
    }

    private interface House {
        Shrinkery make();
    }

    /** The candidate of a number is the first one that becomes the failure. */
    private static void isFirst(int number, String row, House house) {
        Shrinkery before = house.make();
        String old = failure(before, true);
        if (number > 1) {
            before.shrink(number - 1);
        }
        due(old, () -> failure(before, true));
        Shrinkery x = house.make();
        due(row.split(",").length, () -> x.shrink(number));
        due(row, () -> failure(x, true));
    }

    private static void isNone(House house) {
        Shrinkery x = house.make();
        String old = failure(x, true);
        x.shrink(400);
        due(old, () -> failure(x, true));
    }

    /** As many numbers of a seed as told, whose sum is above k, and whose rest by m is that of the failure. */
    private static Shrinkery failing(int seed, int many, int k, int m) {
        Shrinkery x = new Shrinkery();
        x.number(0, 255);
        int all = 0;
        int sum = drawOf(seed, 1);
        for (int i = 1; i < many; i++) {
            all = x.pair(all, 0);
            sum += drawOf(seed, i + 1);
        }
        x.property('s', k, 0);
        x.require(0, m, sum % m);
        x.run(0, all, seed, 1, 0);
        return x;
    }

    /** An even first draw makes one number, an odd one makes two; or the other way round. */
    private static Shrinkery choosing(int seed, int k, boolean isEvenShort) {
        Shrinkery x = new Shrinkery();
        x.number(0, 255);
        x.pair(0, 0);
        x.choice(isEvenShort ? 0 : 1, isEvenShort ? 1 : 0, 1);
        x.property('s', k, 0);
        x.run(0, 2, seed, 1, 0);
        return x;
    }

    private static void isLess() {
        // Three draws, the first one odd, the second one even and less than the third one. Without the second one
        // the row is as long, and greater there; without the first one it is shorter, whatever its draws are.
        int seed = 0;
        while (drawOf(seed, 1) != 1 || drawOf(seed, 2) % 2 != 0 || drawOf(seed, 2) < 2
                || drawOf(seed, 2) >= drawOf(seed, 3)) {
            seed++;
        }
        int three = seed;
        int k = drawOf(seed, 3) - 1;
        isFirst(5, drawOf(three, 2) + "," + drawOf(three, 3), () -> choosing(three, k, true));
        // With 0 for 1 the row would have one draw more: it is not less, though less at the first place.
        int two = seedOf(1, 200);
        isNone(() -> choosing(two, 199, false));
        // As long, and less at the first place, though greater at the second one.
        isFirst(10, "100,200", () -> failing(seedOf(200, 100), 2, 299, 1));
        // The row that it is itself is not less: the 0 that is left out comes back.
        isFirst(7, "0,5", () -> failing(seedOf(5, 0), 2, 4, 1));
    }

    /** The row of the draws of these places, from 1 on, and of zeros behind them. */
    private static List<Integer> rowOf(int seed, int many, int... places) {
        List<Integer> row = new ArrayList<>();
        for (int place : places) {
            row.add(drawOf(seed, place));
        }
        while (row.size() < many) {
            row.add(0);
        }
        return row;
    }

    private static int sum(List<Integer> row) {
        return row.stream().mapToInt(Integer::intValue).sum();
    }

    private static boolean isLess(List<Integer> row, List<Integer> other) {
        return row.size() == other.size() && Arrays.compare(row.stream().mapToInt(i -> i).toArray(),
                other.stream().mapToInt(i -> i).toArray()) < 0;
    }

    private static String joined(List<Integer> row) {
        return row.toString().replaceAll("[\\[\\] ]", "");
    }

    /** By each sum that a candidate just reaches, the first one that reaches it and is less is taken. */
    private static void areInOrder(int seed, int many, int m, List<List<Integer>> candidates) {
        List<Integer> row = new ArrayList<>();
        for (int i = 1; i <= many; i++) {
            row.add(drawOf(seed, i));
        }
        for (List<Integer> one : candidates) {
            int k = sum(one) - 1;
            if (k < 0 || k >= sum(row)) {
                continue;
            }
            for (int i = 0; i < candidates.size(); i++) {
                List<Integer> candidate = candidates.get(i);
                if (sum(candidate) > k && sum(candidate) % m == sum(row) % m && isLess(candidate, row)) {
                    isFirst(i + 1, joined(candidate), () -> failing(seed, many, k, m));
                    break;
                }
            }
        }
    }

    private static void without() {
        int[][] ofFive = {{1}, {5}, {1, 2, 3}, {1, 2, 5}, {1, 4, 5}, {3, 4, 5}, {1, 2, 3, 4}, {1, 2, 3, 5},
            {1, 2, 4, 5}, {1, 3, 4, 5}, {2, 3, 4, 5}};
        int[][] ofTen = {{1, 2}, {1, 10}, {9, 10}, {1, 2, 3, 4, 5, 6}, {1, 2, 3, 4, 5, 10}, {1, 2, 3, 4, 9, 10},
            {1, 2, 3, 8, 9, 10}, {1, 2, 7, 8, 9, 10}, {1, 6, 7, 8, 9, 10}, {5, 6, 7, 8, 9, 10}};
        for (int seed = 1; seed <= 12; seed++) {
            List<List<Integer>> five = new ArrayList<>();
            for (int[] places : ofFive) {
                five.add(rowOf(seed, 5, places));
            }
            areInOrder(seed, 5, 1, five);
            List<List<Integer>> ten = new ArrayList<>();
            for (int[] places : ofTen) {
                ten.add(rowOf(seed, 10, places));
            }
            areInOrder(seed, 10, 1, ten);
        }
        // As many as can be left out at the last place are the first candidate: all of eight, four, two draws and one.
        for (int many = 2; many <= 12; many++) {
            int all = many;
            int cut = many >= 8 ? 8 : many >= 4 ? 4 : 2;
            int seed = seedOfAlike(many);
            int[] places = new int[many - cut];
            for (int i = 0; i < places.length; i++) {
                places[i] = i + 1;
            }
            isFirst(1, joined(rowOf(seed, many, places)), () -> alike(seed, all));
        }
        isFirst(1, "0", () -> alwaysBroken());
    }

    /** A seed of which two of so many draws are alike, and the last one is not 0. */
    private static int seedOfAlike(int many) {
        for (int seed = 1;; seed++) {
            boolean isAlike = false;
            for (int i = 1; i <= many; i++) {
                for (int j = 1; j < i; j++) {
                    isAlike = isAlike || drawOf(seed, i) == drawOf(seed, j);
                }
            }
            if (isAlike && drawOf(seed, many) != 0) {
                return seed;
            }
        }
    }

    /** Numbers of which two are alike: as with zeros behind the first ones. */
    private static Shrinkery alike(int seed, int many) {
        Shrinkery x = new Shrinkery();
        x.number(0, 255);
        int all = 0;
        for (int i = 1; i < many; i++) {
            all = x.pair(all, 0);
        }
        x.property('u', 0, 0);
        x.run(0, all, seed, 1, 0);
        return x;
    }

    private static Shrinkery alwaysBroken() {
        Shrinkery x = new Shrinkery();
        x.number(5, 5);
        x.property('s', 0, 0);
        x.run(0, 0, 7, 1, 0);
        return x;
    }

    /** Two or three numbers of a seed that break as each one is at least that of its place; m as with failing. */
    private static Shrinkery atLeast(int seed, int m, int... least) {
        Shrinkery x = new Shrinkery();
        x.number(0, 255);
        int all = 0;
        int sum = drawOf(seed, 1);
        for (int i = 1; i < least.length; i++) {
            all = x.pair(all, 0);
            sum += drawOf(seed, i + 1);
        }
        StringBuilder text = new StringBuilder();
        for (int one : least) {
            text.append("*0 r <").append(one).append(":15 ");
        }
        x.property('p', code(x, text + "x1"), 0);
        x.require(0, m, sum % m);
        x.run(0, all, seed, 1, 0);
        return x;
    }

    private static void lower() {
        int seed = seedOf(200, 101);
        isFirst(4, "0,101", () -> atLeast(seed, 1, 0, 101));
        isFirst(5, "100,101", () -> atLeast(seed, 1, 100, 101));
        isFirst(6, "199,101", () -> atLeast(seed, 1, 199, 101));
        isFirst(8, "200,50", () -> atLeast(seed, 1, 200, 50));
        isFirst(9, "200,100", () -> atLeast(seed, 1, 200, 100));
        isNone(() -> atLeast(seed, 1, 200, 101));
        // For a draw 0 there is none.
        isFirst(5, "0,50", () -> atLeast(seedOf(0, 101), 1, 0, 50));
        isFirst(6, "0,100", () -> atLeast(seedOf(0, 101), 1, 0, 100));
        isFirst(7, "0,200", () -> failing(seedOf(200, 0), 2, 199, 1));
        // Half of 1 is 0, of 2 and of 3 it is 1.
        isFirst(5, "1,101", () -> atLeast(seedOf(2, 101), 1, 1, 101));
        isFirst(5, "1,101", () -> atLeast(seedOf(3, 101), 1, 1, 101));
        isFirst(6, "2,101", () -> atLeast(seedOf(3, 101), 1, 2, 101));
        // Of three places each one has three.
        int three = seedOfThree(5, 9);
        int[] draws = {drawOf(three, 1), drawOf(three, 2), drawOf(three, 3)};
        for (int place = 0; place < 3; place++) {
            for (int how = 1; how < 3; how++) {
                int[] row = draws.clone();
                row[place] = how == 1 ? draws[place] / 2 : draws[place] - 1;
                isFirst(6 + 3 * place + how, row[0] + "," + row[1] + "," + row[2], () -> atLeast(three, 1, row));
            }
        }
    }

    /** A seed of three draws, of which each is so much greater than the one ahead, the first one than 0. */
    private static int seedOfThree(int least, int more) {
        int seed = 0;
        while (drawOf(seed, 1) < least || drawOf(seed, 2) < drawOf(seed, 1) + more
                || drawOf(seed, 3) < drawOf(seed, 2) + more) {
            seed++;
        }
        return seed;
    }

    private static void exchanged() {
        isFirst(10, "100,101", () -> failing(seedOf(101, 100), 2, 200, 1));
        isNone(() -> failing(seedOf(100, 100), 2, 199, 1));
        isNone(() -> failing(seedOf(100, 101), 2, 200, 1));
        isFirst(7, "0,1", () -> failing(seedOf(1, 0), 2, 0, 1));
        // Where it is not greater, no candidate is counted.
        isFirst(10, "6,6", () -> atLeast(seedOf(7, 7), 2, 6, 6));
        isFirst(10, "6,8", () -> atLeast(seedOf(7, 9), 2, 6, 8));
        isFirst(11, "8,6", () -> atLeast(seedOf(9, 7), 2, 8, 6));
        // Of three draws that fall the first two are exchanged first, then the last two.
        int found = 0;
        while (drawOf(found, 1) <= drawOf(found, 2) || drawOf(found, 2) <= drawOf(found, 3)
                || drawOf(found, 3) <= drawOf(found, 2) / 2) {
            found++;
        }
        int seed = found;
        int a = drawOf(seed, 1);
        int b = drawOf(seed, 2);
        int c = drawOf(seed, 3);
        isFirst(15, b + "," + a + "," + c, () -> failing(seed, 3, a + b + c - 1, 1));
        isFirst(16, a + "," + c + "," + b, () -> atLeast(seed, 2, a, c, c));
    }

    private static void bothLower() {
        int seed = seedOfThree(5, 9);
        int a = drawOf(seed, 1);
        int b = drawOf(seed, 2);
        int c = drawOf(seed, 3);
        isFirst(15, (a - 1) + "," + (b - 1) + "," + c, () -> atLeast(seed, 2, a - 1, b - 1, c));
        isFirst(16, (a - 1) + "," + b + "," + (c - 1), () -> atLeast(seed, 2, a - 1, b, c - 1));
        isFirst(17, a + "," + (b - 1) + "," + (c - 1), () -> atLeast(seed, 2, a, b - 1, c - 1));
        isNone(() -> atLeast(seed, 3, a - 1, b - 1, c - 1));
        // Of four places the last two are the sixth ones: behind 8 rows without some, and 3 for each draw.
        int rising = 0;
        while (drawOf(rising, 1) < 5 || drawOf(rising, 2) < drawOf(rising, 1) + 9
                || drawOf(rising, 3) < drawOf(rising, 2) + 9 || drawOf(rising, 4) < drawOf(rising, 3) + 9) {
            rising++;
        }
        int four = rising;
        for (int i = 0; i < 6; i++) {
            int[] row = {drawOf(four, 1), drawOf(four, 2), drawOf(four, 3), drawOf(four, 4)};
            row[i < 3 ? 0 : i < 5 ? 1 : 2]--;
            row[i < 3 ? i + 1 : i < 5 ? i - 1 : 3]--;
            isFirst(21 + i, row[0] + "," + row[1] + "," + row[2] + "," + row[3], () -> atLeast(four, 2, row));
        }
        // With a draw 0 there is none: of three places just the first one and the last one are left.
        int found = 0;
        while (drawOf(found, 1) < 5 || drawOf(found, 2) != 0 || drawOf(found, 3) < 5) {
            found++;
        }
        int zero = found;
        int first = drawOf(zero, 1);
        int last = drawOf(zero, 3);
        isFirst(13, (first - 1) + ",0," + (last - 1), () -> atLeast(zero, 2, first - 1, 0, last - 1));
        isFirst(10, "0,4", () -> failing(seedOf(1, 5), 2, 3, 2));
    }

    private static void becomesTheFailure() {
        // Discarded by a filter are the first two, by the precondition the third one as well.
        isFirst(3, "8", () -> filtered(1));
        isNone(() -> filtered(2));
        // Other classes are the faults 2, behind a jump, of the first two.
        isFirst(3, "100", () -> faulty(100));
        isNone(() -> faulty(200));
        // As one becomes the failure, the next candidate is the first one of the new failure.
        String[] rows = {"201", "201", "100", "100", "100", "50", "50", "50", "25", "25", "25", "25", "24"};
        for (int i = 1; i <= rows.length; i++) {
            Shrinkery x = failing(seedOf(201, 0), 1, 20, 1);
            int tries = i;
            due(1, () -> x.shrink(tries));
            due(rows[i - 1], () -> failure(x, true));
            due(rows[i - 1], () -> failure(x, false));
            due(true, x::isReplayed);
        }
        // Of nine numbers just an exchange keeps the sum: it is the 53rd candidate, behind 25 without some and 27 that
        // are lower, each time anew.
        int nine = 1;
        while (!isFalling(nine)) {
            nine++;
        }
        int falling = nine;
        List<Integer> row = rowOf(falling, 9, 1, 2, 3, 4, 5, 6, 7, 8, 9);
        int all = sum(row);
        for (int times = 1; times <= 5; times++) {
            String before = joined(row);
            int at = 0;
            while (row.get(at) <= row.get(at + 1)) {
                at++;
            }
            row.set(at, row.set(at + 1, row.get(at)));
            int most = 53 * times;
            Shrinkery less = failing(falling, 9, all - 1, 1);
            due(9, () -> less.shrink(most - 1));
            due(before, () -> failure(less, true));
            Shrinkery x = failing(falling, 9, all - 1, 1);
            due(9, () -> x.shrink(most));
            due(joined(row), () -> failure(x, true));
        }
        // Without its first draw the eighth candidate is a row of three; it has 5 candidates without some, 6 that are
        // lower, none of them for the draws that it had, and then the exchange.
        int four = 0;
        while (drawOf(four, 1) % 2 == 0 || drawOf(four, 2) != 0 || drawOf(four, 3) <= drawOf(four, 4)
                || drawOf(four, 4) == 0) {
            four++;
        }
        int seed = four;
        isFirst(8, "0," + drawOf(seed, 3) + "," + drawOf(seed, 4), () -> shortened(seed));
        Shrinkery last = shortened(seed);
        last.shrink(19);
        due("0," + drawOf(seed, 3) + "," + drawOf(seed, 4), () -> failure(last, true));
        Shrinkery next = shortened(seed);
        next.shrink(20);
        due("0," + drawOf(seed, 4) + "," + drawOf(seed, 3), () -> failure(next, true));
        // Its row is that of the draws that it used: no more, and zeros where there were none.
        Shrinkery list = new Shrinkery();
        list.number(1, 1);
        list.list(0, 8);
        list.property('s', 0, 0);
        list.run(0, 1, seedOf(8, 8), 1, 0);
        due(9, () -> list.shrink(1));
        due("8,0,0,0,0,0,0,0,0", () -> failure(list, true));
        due(2, () -> list.shrink(400));
        due("1,0", () -> failure(list, true));
    }

    /** An odd first draw makes three numbers, an even one two: so a row of four draws becomes one of three. */
    private static Shrinkery shortened(int seed) {
        Shrinkery x = new Shrinkery();
        x.number(0, 255);
        x.pair(0, 0);
        x.pair(1, 0);
        x.choice(1, 2, 1);
        x.property('s', drawOf(seed, 3) + drawOf(seed, 4) - 1, 0);
        x.run(0, 3, seed, 1, 0);
        return x;
    }

    /** No draw of nine is 0, and the first four ones fall. */
    private static boolean isFalling(int seed) {
        for (int i = 1; i <= 9; i++) {
            if (drawOf(seed, i) == 0 || i < 4 && drawOf(seed, i) <= drawOf(seed, i + 1)) {
                return false;
            }
        }
        return true;
    }

    /** The number 17, and the rest 8 by 9 as the filter's: what is below 8 is discarded, by the number 2 8 as well. */
    private static Shrinkery filtered(int modulus) {
        Shrinkery x = new Shrinkery();
        x.number(0, 255);
        x.filter(0, 9, 8);
        x.property('s', 7, 0);
        x.require(0, modulus, 17 % modulus);
        x.run(0, 1, seedOf(17, 0), 1, 0);
        return x;
    }

    /** The number 200, with the fault 1 from a bound on. */
    private static Shrinkery faulty(int bound) {
        Shrinkery x = new Shrinkery();
        x.number(0, 255);
        x.property('p', code(x, "r <" + bound + ":3 x1 x2"), 0);
        x.run(0, 0, seedOf(200, 0), 1, 0);
        return x;
    }

    private static void alikeAreCounted() {
        // Of the draw 1 there are 0, its half and 1 less: the candidates 4, 5 and 6 are alike.
        isFirst(10, "0,4", () -> failing(seedOf(1, 5), 2, 3, 2));
        // Without the first one, and without the second one, of two that are alike.
        isFirst(8, "200,100", () -> atLeast(seedOf(200, 200), 1, 200, 100));
    }

    private static void ends() {
        Shrinkery x = failing(seedOf(201, 0), 1, 20, 1);
        due(1, () -> x.shrink(1));
        due(1, () -> x.shrink(1));
        due(1, () -> x.shrink(2));
        due("201", () -> failure(x, true));
        due(1, () -> x.shrink(3));
        due("100", () -> failure(x, true));
        due(1, () -> x.shrink(400));
        due("21", () -> failure(x, true));
        due(1, () -> x.shrink(400));
        due("21", () -> failure(x, true));
        // 40 draws have 33, 37, 39 and 40 candidates without some, and 3 for each draw: behind them is the exchange.
        int seed = 1;
        while (!isFallingFirst(seed)) {
            seed++;
        }
        int falling = seed;
        Shrinkery many = forty(falling);
        due(40, () -> many.shrink(269));
        due(drawOf(falling, 1), () -> many.failureDraw(0));
        due(40, () -> many.shrink(270));
        due(drawOf(falling, 2), () -> many.failureDraw(0));
        due(drawOf(falling, 1), () -> many.failureDraw(1));
    }

    /** No draw of 40 is 0, and the second one is less than the first one. */
    private static boolean isFallingFirst(int seed) {
        for (int i = 1; i <= 40; i++) {
            if (drawOf(seed, i) == 0) {
                return false;
            }
        }
        return drawOf(seed, 1) > drawOf(seed, 2);
    }

    private static Shrinkery forty(int seed) {
        Shrinkery x = numbers();
        int sum = 0;
        for (int i = 1; i <= 40; i++) {
            sum += drawOf(seed, i);
        }
        x.property('s', sum - 1, 0);
        x.run(0, 6, seed, 1, 0);
        return x;
    }
}
