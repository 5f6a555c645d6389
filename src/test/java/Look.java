import java.util.ArrayList;
import java.util.List;

/** Ways to look at all that an object holds; some spoil it, so each object is looked at in one way only. */
enum Look {
    LAND, TEXTS, SHEETS, SIZES, IMAGE;

    List<Long> at(Run.Hill hill) {
        List<Long> seen = new ArrayList<>();
        switch (this) {
            case LAND -> land(hill, seen);
            case TEXTS -> texts(hill, seen);
            case SHEETS -> sheets(hill, seen);
            case SIZES -> sizes(hill, seen);
            default -> {
                seen.add(hill.call("back"));
                land(hill, seen);
            }
        }
        return seen;
    }

    private static void land(Run.Hill hill, List<Long> seen) {
        for (int what = 0; what < 6; what++) {
            seen.add(hill.call("count", what));
        }
        seen.add(hill.call("told", 0, 0));
        for (int mile = 0; mile < 40; mile++) {
            seen.add(hill.call("told", mile, 1));
        }
        for (int pair = 0; pair < 5; pair++) {
            for (int what = 2; what < 16; what++) {
                seen.add(hill.call("told", pair, what));
            }
        }
    }

    private static void texts(Run.Hill hill, List<Long> seen) {
        seen.add(hill.call("count", 4));
        seen.add(hill.call("pair", 0, 1, 30));
        seen.add(hill.call("text"));
        for (int text = 0; text < 6; text++) {
            seen.add(hill.call("force", text));
            for (int what : new int[] {6, 7, 10, 15}) {
                seen.add(hill.call("told", 0, what));
            }
        }
    }

    private static void sheets(Run.Hill hill, List<Long> seen) {
        for (int sheet = 0; sheet < 4; sheet++) {
            for (int what = 0; what < 8; what++) {
                seen.add(hill.call("tells", sheet, 0, what));
            }
        }
        hill.call("image");
        for (int sheet = 0; sheet < 4; sheet++) {
            for (int sort = 0; sort < 3; sort++) {
                seen.add(hill.call("pairs", sheet, sort, 0, 0));
                if (seen.get(seen.size() - 1) == 0) {
                    numbers(hill, seen, sheet, sort);
                }
            }
        }
    }

    /** A pair that comes by three numbers shows them. */
    private static void numbers(Run.Hill hill, List<Long> seen, int sheet, int sort) {
        for (int from = 0; from < 4; from++) {
            seen.add(hill.call("pairs", sheet, sort, from, 1));
            int last = (int) hill.call("count", 0) - 1;
            for (int what = 2; what < 5; what++) {
                seen.add(hill.call("told", last, what));
            }
            hill.call("back");
        }
    }

    private static void sizes(Run.Hill hill, List<Long> seen) {
        for (int sheet = 0; sheet < 4; sheet++) {
            for (int i = 0; i < 41; i++) {
                seen.add(hill.call("cell", sheet, i, 0));
            }
        }
    }
}
