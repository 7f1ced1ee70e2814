import java.util.ArrayList;
import java.util.List;

/**
 * The sentences on the guided search. A round goes by three numbers, which are the draws of the seed anew: so seeds
 * are looked for whose numbers say what a test is about, and programs go an edge of their own for the row that is due.
 */
final class SearchSentences extends Sentences {
    private static final int TRIED = 4000000;

    static void all() {
        sentence("A search of a program by a generator begins with the input of a seed, which is in the corpus if it "
                + "is not discarded;", SearchSentences::begins);
        sentence("for what follows z begins at the seed anew, and goes on as for draws, each number taken being its "
                + "draw.", SearchSentences::numbersTaken);
        sentence("Without a corpus rounds do nothing.", SearchSentences::withoutCorpus);
        sentence("In each round, the row of the corpus with the greatest energy, of several the first one, is chosen:",
                SearchSentences::greatestEnergy);
        sentence("60 divided by the number of rows of the corpus that have the edge, cut, together over all edges of "
                + "its own, less 10 for each time that it was chosen.", SearchSentences::energies);
        sentence("It is changed by the first number modulo 4: 0 the draw at a place becomes another number;",
                SearchSentences::becomesAnother);
        sentence("1 a number is put in at a place, if it has less than 60;", SearchSentences::isPutIn);
        sentence("2 its draws up to a place, that left out, are followed by those of another row, from the same place "
                + "on, that one being the number modulo the corpus;", SearchSentences::followedByAnother);
        sentence("3 the draw at a place becomes the k of one of the instructions '<' and '=' of the program, modulo "
                + "256, that one being the number modulo how many there are; nothing if there are none.",
                SearchSentences::becomesCompared);
        sentence("The place is the second number modulo the length, for 1 modulo the length plus 1, 0 for a row "
                + "without draws, which 0 and 3 leave as it is; the other number is the third one.",
                SearchSentences::places);
        sentence("Three numbers are taken in each round, also where they are of no use.",
                SearchSentences::threeNumbers);
        sentence("What is changed is replayed; if it is not discarded, its row is put behind the corpus, of at most "
                + "20, if some edge has a level that no row of the corpus, or that was tried, had.",
                SearchSentences::isPutBehind);
        sentence("A fault goes into its class, of at most 10, in the order in which they came; a class keeps its least "
                + "row.", SearchSentences::classesOfSearch);
    }

    /** As many numbers of a seed, the first one at 1. */
    private static int[] numbersOf(int seed, int many) {
        int[] all = new int[many + 1];
        for (int i = 1; i <= many; i++) {
            all[i] = drawOf(seed, i);
        }
        return all;
    }

    private interface Wanted {
        boolean is(int[] d);
    }

    /** So many seeds whose first numbers are as wanted. */
    private static List<Integer> seeds(int count, int many, Wanted wanted) {
        List<Integer> found = new ArrayList<>();
        for (int seed = 0; seed < TRIED && found.size() < count; seed++) {
            if (wanted.is(numbersOf(seed, many))) {
                found.add(seed);
            }
        }
        if (found.size() < count) {
            throw new IllegalStateException("no such seeds");
        }
        return found;
    }

    /** The row of the first so many numbers. */
    private static List<Integer> row(int[] d, int many) {
        List<Integer> row = new ArrayList<>();
        for (int i = 1; i <= many; i++) {
            row.add(d[i]);
        }
        return row;
    }

    private static List<Integer> with(List<Integer> row, int place, int draw) {
        List<Integer> changed = new ArrayList<>(row);
        changed.set(place, draw);
        return changed;
    }

    private static List<Integer> putIn(List<Integer> row, int place, int draw) {
        List<Integer> changed = new ArrayList<>(row);
        changed.add(place, draw);
        return changed;
    }

    /** A row as it is replayed by a generator that uses so many draws. */
    private static List<Integer> used(List<Integer> row, int many) {
        List<Integer> fit = new ArrayList<>(row.subList(0, Math.min(row.size(), many)));
        while (fit.size() < many) {
            fit.add(0);
        }
        return fit;
    }

    private static int sum(List<Integer> row) {
        return row.stream().mapToInt(Integer::intValue).sum();
    }

    private static String joined(List<Integer> row) {
        return row.toString().replaceAll("[\\[\\] ]", "");
    }

    /** A search by four numbers; instructions 5 on are told by what is left of their sum by 256. */
    private static Shrinkery ofFour(String text) {
        Shrinkery x = numbers();
        code(x, "r r r r %255 " + text);
        return x;
    }

    /** An edge of its own for the sum of a row. */
    private static String telling(List<Integer> row) {
        return "=" + sum(row) % 256 + ":7 j:15 j:15";
    }

    private static void areKept(Shrinkery x, List<List<Integer>> rows) {
        due(rows.size(), x::corpus);
        for (int i = 0; i < rows.size(); i++) {
            int at = i;
            due(joined(rows.get(at)), () -> kept(x, at));
        }
        due("", () -> kept(x, rows.size()));
    }

    private static void begins() {
        Shrinkery x = numbers();
        code(x, "r r o");
        code(x, "");
        code(x, "x1");
        for (int seed : new int[] {0, 5, -1, MOST, LEAST}) {
            for (int program = 0; program < 3; program++) {
                int of = program;
                due(1, () -> x.search(of, 1, seed, 0));
                due(drawOf(seed, 1) + "," + drawOf(seed, 2), () -> kept(x, 0));
            }
        }
        int none = x.word(0, 1);
        due(0, () -> x.search(0, none, 5, 0));
        due(0, x::corpus);
        due(OUT, () -> x.corpusDraw(0, 0));
        // By two numbers, or none: an odd first draw makes what is discarded.
        int some = x.choice(1, none, 1);
        due(drawOf(2, 1) % 2 == 0 ? 1 : 0, () -> x.search(0, some, 2, 0));
        due(drawOf(3, 1) % 2 == 0 ? 1 : 0, () -> x.search(0, some, 3, 0));
        due(1, () -> drawOf(2, 1) % 2 + drawOf(3, 1) % 2);
    }

    private static void numbersTaken() {
        // The first number is the first draw of the seed anew, the third one its third draw; the next round goes on.
        List<Integer> found = seeds(6, 6, d -> d[1] % 4 == 0 && d[4] % 4 == 0 && d[3] != d[1] && d[6] != d[1]
                && d[6] != d[3]);
        for (int seed : found) {
            int[] d = numbersOf(seed, 6);
            Shrinkery x = new Shrinkery();
            x.number(0, 255);
            code(x, "r =" + d[3] + ":4 =" + d[6] + ":4 +0 +0");
            due(1, () -> x.search(0, 0, seed, 0));
            due(2, () -> x.search(0, 0, seed, 1));
            areKept(x, List.of(row(d, 1), List.of(d[3])));
            due(3, () -> x.search(0, 0, seed, 2));
            areKept(x, List.of(row(d, 1), List.of(d[3]), List.of(d[6])));
        }
    }

    private static void withoutCorpus() {
        Shrinkery x = new Shrinkery();
        x.word(0, 1);
        x.number(0, 255);
        code(x, "r =9:2 x1");
        due(0, () -> x.search(0, 0, 1, 100));
        due(0, x::corpus);
        due(0, x::covered);
        due(0, x::classes);
        due(OUT, () -> x.energy(0));
        // A search before is over with it.
        due(1, () -> x.search(0, 1, 1, 0));
        due(1, x::classes);
        due(0, () -> x.search(0, 0, 1, 100));
        due(0, x::covered);
        due(0, x::classes);
        code(x, "j:0");
        for (int times = 0; times < 2; times++) {
            due(1, () -> x.search(1, 1, 1, 0));
            due(1, x::covered);
            due(60, () -> x.energy(0));
        }
    }

    private static void greatestEnergy() {
        // Both rows share two edges, and have two of their own: of 180 each, 10 less for each time, the greater one
        // is chosen, and the first one if they are alike.
        int[][] energies = {{170, 180}, {170, 170}, {160, 170}, {160, 160}, {150, 160}, {150, 150}};
        for (int seed : seeds(3, 3, d -> d[1] % 4 == 0 && d[3] < 100 && d[1] >= 100)) {
            for (int i = 0; i < energies.length; i++) {
                int rounds = i + 1;
                int[] of = energies[i];
                Shrinkery x = new Shrinkery();
                x.number(0, 255);
                code(x, "r <100:3 j:4 +0 o");
                due(2, () -> x.search(0, 0, seed, rounds));
                due(of[0], () -> x.energy(0));
                due(of[1], () -> x.energy(1));
            }
        }
        // Of three rows the greatest one is neither always the first one nor the last one that is above the first one.
        for (int seed : seeds(2, 6, d -> d[1] % 4 == 0 && d[4] % 4 == 0 && d[3] != d[1] && d[6] != d[1]
                && d[6] != d[3])) {
            int[] d = numbersOf(seed, 6);
            int[] worth = {190 - 20, 130, 100};
            for (int rounds = 2; rounds <= 50; rounds++) {
                Shrinkery x = new Shrinkery();
                x.number(0, 255);
                code(x, "r =" + d[6] + ":4 =" + d[3] + ":4 +0 +0");
                x.search(0, 0, seed, rounds);
                for (int i = 0; i < 3; i++) {
                    int at = i;
                    due(worth[at], () -> x.energy(at));
                }
                int greatest = worth[1] > worth[0] ? 1 : 0;
                greatest = worth[2] > worth[greatest] ? 2 : greatest;
                worth[greatest] -= 10;
            }
        }
    }

    private static void energies() {
        Shrinkery x = new Shrinkery();
        x.number(0, 255);
        x.list(0, 8);
        code(x, "r r r");
        code(x, "");
        code(x, "e:4 r <9:0 j:0 +0");
        x.search(0, 0, 1, 0);
        due(180, () -> x.energy(0));
        x.search(0, 0, 1, 1);
        due(170, () -> x.energy(0));
        x.search(0, 0, 1, 100);
        due(180 - 1000, () -> x.energy(0));
        x.search(1, 0, 1, 4);
        due(-40, () -> x.energy(0));
        int mostRows = 0;
        for (int seed = 0; seed < 12; seed++) {
            int rows = x.search(2, 1, seed, 100);
            mostRows = Math.max(mostRows, rows);
            int[] with = new int[17 * 17];
            boolean[][] has = new boolean[rows][];
            for (int i = 0; i < rows; i++) {
                has[i] = edgesOf(kept(x, i), "e:4 r <9:0 j:0 +0", 5);
                for (int j = 0; j < with.length; j++) {
                    with[j] += has[i][j] ? 1 : 0;
                }
            }
            int chosen = 0;
            for (int i = 0; i < rows; i++) {
                int all = 0;
                for (int j = 0; j < with.length; j++) {
                    all += has[i][j] ? 60 / with[j] : 0;
                }
                int worth = all;
                int at = i;
                due(0, () -> (worth - x.energy(at)) % 10);
                chosen += (all - x.energy(i)) / 10;
            }
            int times = chosen;
            due(100, () -> times);
        }
        // Of seven rows and more what is cut does not come out.
        int most = mostRows;
        due(true, () -> most >= 7);
    }

    /** Which edges a program has on a row, by 17 times the one from which it leads plus that to which it leads. */
    private static boolean[] edgesOf(String row, String text, int size) {
        Shrinkery x = new Shrinkery();
        x.number(0, 255);
        x.list(0, 8);
        code(x, text);
        for (String draw : row.split(",")) {
            x.type(Integer.parseInt(draw));
        }
        x.replay(1);
        boolean[] has = new boolean[17 * 17];
        for (int from = 0; from < size; from++) {
            for (int to = 0; to <= 16; to++) {
                has[17 * from + to] = x.level(0, from, to) > 0;
            }
        }
        return has;
    }

    private static void becomesAnother() {
        // The first round, a number put in behind the last draw, is of no use: else the third place would be as it was.
        for (int i = 0; i < 4; i++) {
            int place = i;
            for (int seed : seeds(3, 6, d -> d[1] % 4 == 1 && d[2] % 5 == 4 && d[4] % 4 == 0 && d[5] % 4 == place
                    && d[6] != d[1 + place])) {
                int[] d = numbersOf(seed, 6);
                List<Integer> changed = with(row(d, 4), place, d[6]);
                Shrinkery x = ofFour(telling(changed));
                due(1, () -> x.search(0, 2, seed, 1));
                due(2, () -> x.search(0, 2, seed, 2));
                areKept(x, List.of(row(d, 4), changed));
            }
        }
    }

    private static void isPutIn() {
        for (int i = 0; i < 5; i++) {
            int place = i;
            for (int seed : seeds(3, 4, d -> d[1] % 4 == 1 && d[2] % 5 == place && d[3] != d[4])) {
                int[] d = numbersOf(seed, 4);
                List<Integer> changed = used(putIn(row(d, 4), place, d[3]), 4);
                // Behind the last draw it is of no use, though the sum with it, without the last one, is told.
                Shrinkery x = ofFour(telling(used(putIn(row(d, 4), 0, d[3]), 4)));
                due(place == 4 ? 1 : 2, () -> x.search(0, 2, seed, 1));
                areKept(x, place == 4 ? List.of(row(d, 4)) : List.of(row(d, 4), changed));
            }
        }
        // Of 59 draws the first value, the 41st draw, becomes the 40th one; of 60 nothing is changed.
        for (int length = 59; length <= 60; length++) {
            int many = length;
            for (int seed : seeds(3, 60, d -> d[1] % 4 == 1 && d[2] % (many + 1) < 40 && d[40] != d[41])) {
                int[] d = numbersOf(seed, 60);
                Shrinkery x = longRows(many == 60);
                code(x, "r =" + d[40] + ":3 j:15 j:15");
                due(many == 60 ? 1 : 2, () -> x.search(0, many == 60 ? 14 : 15, seed, 1));
                due(joined(row(d, many)), () -> kept(x, 0));
                List<Integer> changed = used(putIn(row(d, many), d[2] % (many + 1), d[3]), many);
                due(many == 60 ? "" : joined(changed), () -> kept(x, 1));
            }
        }
    }

    /** 40 draws that make no value, and 20 or 19 that make a number each: the last generator makes them all. */
    private static Shrinkery longRows(boolean isOfSixty) {
        Shrinkery x = new Shrinkery();
        x.number(0, 0);
        for (int i = 0; i < 5; i++) {
            x.pair(i, i);
        }
        x.pair(5, 3);
        x.depends(6, 0);
        x.number(0, 255);
        for (int i = 8; i < 12; i++) {
            x.pair(i, i);
        }
        if (isOfSixty) {
            x.pair(12, 10);
            x.pair(7, 13);
        } else {
            x.pair(9, 8);
            x.pair(12, 13);
            x.pair(7, 14);
        }
        return x;
    }

    private static int lengthOf(int draw) {
        return 1 + draw % 9;
    }

    /** The second row: a number put in at the place 0, so that it is another length. */
    private static List<Integer> second(int[] d) {
        return used(putIn(row(d, lengthOf(d[1])), 0, d[3]), lengthOf(d[3]));
    }

    /** The second row up to a place, that left out, and the first one from there on. */
    private static List<Integer> crossed(int[] d) {
        List<Integer> first = row(d, lengthOf(d[1]));
        List<Integer> second = second(d);
        int place = d[5] % second.size();
        List<Integer> all = new ArrayList<>(second.subList(0, place));
        all.addAll(first.subList(Math.min(place, first.size()), first.size()));
        return used(all, lengthOf(all.isEmpty() ? 0 : all.get(0)));
    }

    /** What is left by 256 of the sum of the values of a row, the first draw of which tells how many they are. */
    private static int told(List<Integer> row) {
        return (sum(row) - row.get(0)) % 256;
    }

    /** By two rounds: the first one puts a number in at the place 0, the second one goes on with that row. */
    private static boolean isCrossing(int[] d, int other) {
        if (d[1] % 4 != 1 || d[2] % (lengthOf(d[1]) + 1) != 0 || d[4] % 4 != 2 || d[6] % 2 != other) {
            return false;
        }
        int first = told(row(d, lengthOf(d[1])));
        int second = told(second(d));
        int third = told(crossed(d));
        return d[5] % lengthOf(d[3]) > 0 && first != second && first != third && second != third;
    }

    private static Shrinkery crossing(int[] d) {
        Shrinkery x = new Shrinkery();
        x.number(0, 255);
        x.list(0, 8);
        code(x, "r r r r r r r r %255 =" + told(crossed(d)) + ":13 =" + told(second(d)) + ":12 j:13 +0 o");
        return x;
    }

    private static void followedByAnother() {
        Wanted[] ends = {
            d -> d[5] % lengthOf(d[3]) < lengthOf(d[1]) && lengthOf(d[1]) < lengthOf(d[3]),
            d -> d[5] % lengthOf(d[3]) < lengthOf(d[1]) && lengthOf(d[1]) > lengthOf(d[3]),
            d -> d[5] % lengthOf(d[3]) == lengthOf(d[1])};
        for (Wanted end : ends) {
            for (int seed : seeds(3, 12, d -> end.is(d) && isCrossing(d, 0))) {
                int[] d = numbersOf(seed, 12);
                Shrinkery x = crossing(d);
                due(2, () -> x.search(0, 1, seed, 1));
                due(3, () -> x.search(0, 1, seed, 2));
                areKept(x, List.of(row(d, lengthOf(d[1])), second(d), crossed(d)));
            }
            // The number modulo 2 tells of the row itself: nothing is changed.
            for (int seed : seeds(2, 12, d -> end.is(d) && isCrossing(d, 1))) {
                int[] d = numbersOf(seed, 12);
                Shrinkery x = crossing(d);
                due(2, () -> x.search(0, 1, seed, 2));
                areKept(x, List.of(row(d, lengthOf(d[1])), second(d)));
            }
        }
        // With a corpus of one row that row is the other one too.
        for (int seed : seeds(3, 4, d -> d[1] % 4 == 2 && d[3] % 2 == 1)) {
            Shrinkery x = ofFour("<128:7 j:15 j:15");
            due(1, () -> x.search(0, 2, seed, 1));
        }
    }

    private static void becomesCompared() {
        int[] compared = {250, 251, 252};
        for (int i = 0; i < 3; i++) {
            int which = i;
            for (int seed : seeds(3, 3, d -> d[1] % 4 == 3 && d[3] % 3 == which && d[1] < 250)) {
                int[] d = numbersOf(seed, 3);
                Shrinkery x = new Shrinkery();
                x.number(0, 255);
                code(x, "r =250:5 <251:5 =252:5 +0 +0");
                due(2, () -> x.search(0, 0, seed, 1));
                areKept(x, List.of(row(d, 1), List.of(compared[which])));
            }
        }
        // The k of others are none of these, whatever the number is; 0 and 255 are some.
        for (int i = 0; i < 4; i++) {
            int rest = i;
            for (int seed : seeds(2, 3, d -> d[1] % 4 == 3 && d[3] % 4 == rest && d[1] != 200)) {
                Shrinkery x = new Shrinkery();
                x.number(0, 255);
                code(x, "r =200:5 +50 %255 j:15 x77");
                due(2, () -> x.search(0, 0, seed, 1));
                due(200, () -> x.corpusDraw(1, 0));
            }
        }
        for (int k : new int[] {0, 255}) {
            for (int seed : seeds(2, 3, d -> d[1] % 4 == 3 && d[1] != 255)) {
                Shrinkery x = new Shrinkery();
                x.number(0, 255);
                code(x, "r =" + k + ":3 j:15 j:15");
                due(2, () -> x.search(0, 0, seed, 1));
                due(k, () -> x.corpusDraw(1, 0));
            }
        }
        // Without any it stays as it is, and goes into no other number: another length would be another level.
        for (int seed : seeds(6, 3, d -> d[1] % 4 == 3 && d[2] % lengthOf(d[1]) == 0 && d[1] % 9 == 3)) {
            Shrinkery x = new Shrinkery();
            x.number(0, 255);
            x.list(0, 8);
            code(x, "e:4 r +9 j:0");
            code(x, "e:2 r +0");
            due(1, () -> x.search(0, 1, seed, 1));
            due(5, x::covered);
            due(1, () -> x.search(1, 1, seed, 1));
            due(3, x::covered);
        }
        // The first instruction is one of them too: with it the number tells of the second one.
        for (int seed : seeds(3, 3, d -> d[1] % 4 == 3 && d[3] % 6 == 1 && d[1] != 99 && d[1] != 250)) {
            Shrinkery x = new Shrinkery();
            x.number(0, 255);
            code(x, "=7:1 r =99:5 =250:5 +0 +0");
            due(2, () -> x.search(0, 0, seed, 1));
            due(99, () -> x.corpusDraw(1, 0));
        }
        for (int seed : seeds(3, 3, d -> d[1] % 4 == 3 && d[3] % 6 == 2 && d[1] != 99 && d[1] != 250)) {
            Shrinkery x = new Shrinkery();
            x.number(0, 255);
            code(x, "=7:1 r =99:5 =250:5 +0 +0");
            due(2, () -> x.search(0, 0, seed, 1));
            due(250, () -> x.corpusDraw(1, 0));
        }
        // The first instruction of the next program is none of a program's, though that one has 16.
        String twelve = " +0 +0 +0 +0 +0 +0 +0 +0 +0 +0 +0 +0";
        for (int seed : seeds(6, 3, d -> d[1] % 4 == 3 && d[2] % lengthOf(d[1]) == 0 && d[1] % 9 == 3)) {
            Shrinkery x = new Shrinkery();
            x.number(0, 255);
            x.list(0, 8);
            code(x, "e:4 r +9 j:0" + twelve);
            code(x, "=1:0");
            due(1, () -> x.search(0, 1, seed, 1));
            due(17, x::covered);
        }
        for (int seed : seeds(3, 3, d -> d[1] % 4 == 3 && d[3] % 2 == 1 && d[1] != 99)) {
            Shrinkery x = new Shrinkery();
            x.number(0, 255);
            code(x, "r =99:15 +0 +0" + twelve);
            code(x, "=7:0");
            due(2, () -> x.search(0, 0, seed, 1));
            due(99, () -> x.corpusDraw(1, 0));
        }
    }

    private static void places() {
        // For 0 and 1 see above: here for 3, with two numbers to choose from that the sum does not tell.
        for (int i = 0; i < 4; i++) {
            int place = i;
            for (int seed : seeds(3, 4, d -> d[1] % 4 == 3 && d[2] % 4 == place && d[3] % 3 > 0
                    && d[1 + place] != 17 && d[1 + place] != 99)) {
                int[] d = numbersOf(seed, 4);
                List<Integer> changed = with(row(d, 4), place, d[3] % 3 == 1 ? 17 : 99);
                Shrinkery x = ofFour(telling(changed) + " <17:0 =99:0");
                due(2, () -> x.search(0, 2, seed, 1));
                areKept(x, List.of(row(d, 4), changed));
            }
        }
        // A row of one draw has the place 0 alone, or 0 and 1 for what is put in.
        for (int rest = 0; rest < 2; rest++) {
            int left = rest;
            for (int seed : seeds(3, 3, d -> d[1] % 4 == 0 && d[2] % 2 == left && d[3] != d[1])) {
                Shrinkery x = new Shrinkery();
                x.number(0, 255);
                code(x, "r =" + drawOf(seed, 3) + ":3 j:15 j:15");
                due(2, () -> x.search(0, 0, seed, 1));
            }
            for (int seed : seeds(3, 3, d -> d[1] % 4 == 1 && d[2] % 2 == left && d[3] != d[1])) {
                Shrinkery x = new Shrinkery();
                x.number(0, 255);
                code(x, "r =" + drawOf(seed, 3) + ":3 j:15 j:15");
                due(left == 0 ? 2 : 1, () -> x.search(0, 0, seed, 1));
            }
        }
    }

    private static void threeNumbers() {
        // Nothing is done in the first round: a number behind the last draw, the row itself, no k to compare with.
        for (int first = 1; first <= 2; first++) {
            int way = first;
            Wanted idle = d -> d[1] % 4 == way && (way != 1 || d[2] % 5 == 4);
            for (int seed : seeds(3, 6, d -> idle.is(d) && d[4] % 4 == 0 && d[6] != d[1 + d[5] % 4])) {
                int[] d = numbersOf(seed, 6);
                List<Integer> changed = with(row(d, 4), d[5] % 4, d[6]);
                Shrinkery x = ofFour(telling(changed));
                due(1, () -> x.search(0, 2, seed, 1));
                due(2, () -> x.search(0, 2, seed, 2));
                areKept(x, List.of(row(d, 4), changed));
            }
        }
        for (int seed : seeds(6, 6, d -> d[1] % 4 == 3 && d[4] % 4 == 0 && d[5] % lengthOf(d[1]) == 0
                && d[1] % 9 < 4 && d[6] % 9 < 4 && d[6] % 9 > 0 && d[6] % 9 != d[1] % 9)) {
            int[] d = numbersOf(seed, 6);
            Shrinkery x = new Shrinkery();
            x.number(0, 255);
            x.list(0, 8);
            code(x, "e:3 r j:0");
            due(1, () -> x.search(0, 1, seed, 1));
            due(2, () -> x.search(0, 1, seed, 2));
            areKept(x, List.of(row(d, lengthOf(d[1])), used(with(row(d, lengthOf(d[1])), 0, d[6]), lengthOf(d[6]))));
        }
    }

    private static void isPutBehind() {
        // What is discarded takes a round, and goes nowhere: an odd first draw makes none.
        for (int seed : seeds(3, 4, d -> d[1] % 4 == 0 && d[2] % 2 == 0 && d[3] % 2 == 1)) {
            Shrinkery x = new Shrinkery();
            x.number(0, 255);
            x.word(0, 1);
            x.choice(0, 1, 1);
            code(x, "r <128:3 j:15 j:15");
            due(1, () -> x.search(0, 2, seed, 0));
            int before = x.energy(0);
            int covered = x.covered();
            due(1, () -> x.search(0, 2, seed, 1));
            due(before - 10, () -> x.energy(0));
            due(covered, x::covered);
        }
        // The same edges with another level are put behind it, with the same levels they are not.
        for (int length = 1; length <= 8; length++) {
            for (int other = 1; other <= 8; other++) {
                int one = length;
                int two = other;
                if (one == two) {
                    continue;
                }
                int seed = seeds(1, 3, d -> d[1] % 4 == 0 && d[1] % 9 == one && d[2] % (one + 1) == 0
                        && d[3] % 9 == two).get(0);
                boolean isAlike = one >= 4 && one <= 7 && two >= 4 && two <= 7;
                Shrinkery x = new Shrinkery();
                x.number(0, 255);
                x.list(0, 8);
                code(x, "e:3 r j:0");
                due(isAlike ? 1 : 2, () -> x.search(0, 1, seed, 1));
                due(isAlike ? 4 : 7, x::covered);
            }
        }
        // More than 20 rows would be put behind it: what comes when it is full is seen, but not kept.
        Shrinkery full = new Shrinkery();
        full.number(0, 255);
        full.list(0, 7);
        code(full, "r e:15 <28:0 <56:0 <84:0 <112:0 <140:0 <168:0 <196:0 <224:0 j:0");
        int enough = 0;
        while (full.search(0, 1, 19, enough) < 20) {
            enough++;
        }
        int rounds = enough;
        String last = kept(full, 19);
        int covered = full.covered();
        due(19, () -> full.search(0, 1, 19, rounds - 1));
        due(20, () -> full.search(0, 1, 19, 100));
        due(last, () -> kept(full, 19));
        due(OUT, () -> full.corpusDraw(20, 0));
        due(OUT, () -> full.energy(20));
        due(true, () -> full.covered() > covered);
    }

    private static void classesOfSearch() {
        // Fourteen jumps lead to the fault, and a fifteenth class is without one: each number has its class.
        StringBuilder text = new StringBuilder("r");
        for (int i = 1; i <= 14; i++) {
            text.append(" <").append(17 * i).append(":15");
        }
        int full = 0;
        for (int seed = 0; seed < 20; seed++) {
            int of = seed;
            Shrinkery x = new Shrinkery();
            x.number(0, 255);
            code(x, text + " x3");
            List<Integer> classes = new ArrayList<>();
            addClass(classes, drawOf(seed, 1));
            for (int round = 0; round < 100; round++) {
                int way = drawOf(seed, 3 * round + 1) % 4;
                int place = drawOf(seed, 3 * round + 2) % 2;
                int number = drawOf(seed, 3 * round + 3);
                if (way == 0 || way == 1 && place == 0) {
                    addClass(classes, number);
                } else if (way == 3) {
                    addClass(classes, 17 * (number % 14 + 1));
                }
                if (round == 4) {
                    due(classes.size(), () -> {
                        x.search(0, 0, of, 5);
                        return x.classes();
                    });
                }
            }
            x.search(0, 0, of, 100);
            int most = Math.min(10, classes.size());
            full += most == 10 && classes.size() > 10 ? 1 : 0;
            due(most, x::classes);
            for (int i = 0; i < most; i++) {
                int at = i;
                due(classes.get(at), () -> x.foundClass(at));
                due(1, () -> x.leastLength(at));
            }
            due(OUT, () -> x.foundClass(most));
            due(OUT, () -> x.leastLength(most));
            due(true, x::isSound);
        }
        int many = full;
        due(true, () -> many > 5);
        faultOfNothing();
        // The first input's fault counts too; a shorter row takes the place of the one that is kept.
        List<Integer> others = seeds(3, 3, d -> d[1] % 4 == 0 && d[2] % lengthOf(d[1]) == 0 && d[1] % 9 < d[3] % 9);
        others.addAll(seeds(3, 3, d -> d[1] % 4 == 0 && d[2] % lengthOf(d[1]) == 0 && d[1] % 9 > d[3] % 9));
        for (int seed : others) {
            Shrinkery x = new Shrinkery();
            x.number(0, 255);
            x.list(0, 8);
            code(x, "x3");
            x.search(0, 1, seed, 0);
            due(1, x::classes);
            due(3 * 4096, () -> x.foundClass(0));
            due(lengthOf(drawOf(seed, 1)), () -> x.leastLength(0));
            x.search(0, 1, seed, 1);
            due(1, x::classes);
            due(1, x::corpus);
            due(Math.min(lengthOf(drawOf(seed, 1)), lengthOf(drawOf(seed, 3))), () -> x.leastLength(0));
        }
    }

    private static void faultOfNothing() {
        // The fault 0 is one, and its class may be 0; what ends without a fault has none.
        Shrinkery x = new Shrinkery();
        x.number(0, 255);
        code(x, "x0");
        code(x, "r");
        x.search(0, 0, 1, 5);
        due(1, x::classes);
        due(0, () -> x.foundClass(0));
        due(1, () -> x.leastLength(0));
        x.search(1, 0, 1, 5);
        due(0, x::classes);
    }

    private static void addClass(List<Integer> classes, int value) {
        int jump = value / 17 + 1;
        int type = 3 * 4096 + (jump <= 14 ? 256 * jump : 0);
        if (!classes.contains(type)) {
            classes.add(type);
        }
    }
}
