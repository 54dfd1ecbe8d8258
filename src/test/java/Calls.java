import java.util.Arrays;

/** Calls of the face, told by name and numbers (a boolean is 0 or 1) or by text, as "put(false, 2, -1)". */
final class Calls {
    private Calls() {
    }

    static int byText(FlowPlane x, String call) {
        int open = call.indexOf('(');
        String inside = call.substring(open + 1, call.lastIndexOf(')')).trim();
        String[] words = inside.isEmpty() ? new String[0] : inside.split("\\s*,\\s*");
        return byName(x, call.substring(0, open), Arrays.stream(words).mapToInt(Calls::numberOf).toArray());
    }

    private static int numberOf(String word) {
        return switch (word) {
            case "false" -> 0;
            case "true" -> 1;
            default -> Integer.parseInt(word);
        };
    }

    static int byName(FlowPlane x, String call, int... a) {
        return switch (call) {
            case "put" -> x.put(a[0] == 1, a[1], a[2]);
            case "number" -> x.number(a[0] == 1, a[1]);
            case "speed" -> x.speed(a[0], a[1], a[2] == 1);
            case "slope" -> x.slope(a[0], a[1], a[2]);
            case "back" -> x.back();
            case "quarter" -> x.quarter();
            case "mirror" -> x.mirror();
            case "move" -> x.move(a[0], a[1]);
            case "add" -> x.add(a[0], a[1]);
            case "rests" -> x.rests();
            case "rest" -> x.rest(a[0], a[1] == 1);
            case "sort" -> x.sort(a[0], a[1]);
            case "sorts" -> x.sorts(a[0]);
            case "corner" -> x.corner(a[0], a[1]);
            case "open" -> x.open();
            case "simple" -> x.simple(a[0] == 1);
            case "area" -> x.area();
            case "within" -> x.within(a[0], a[1]);
            case "across" -> x.across(a[0]);
            case "turns" -> x.turns(a[0]);
            case "held" -> x.held(a[0] == 1);
            case "wind" -> x.wind();
            case "indexes" -> x.indexes();
            default -> byNameFurther(x, call, a);
        };
    }

    private static int byNameFurther(FlowPlane x, String call, int... a) {
        return switch (call) {
            case "along" -> x.along(a[0], a[1], a[2], a[3], a[4], a[5]);
            case "falls" -> x.falls(a[0], a[1], a[2], a[3], a[4], a[5], a[6]);
            case "kept" -> x.kept();
            case "none" -> x.none(a[0], a[1], a[2], a[3]);
            case "edge" -> x.edge();
            case "far" -> x.far(a[0], a[1]);
            case "keep" -> x.keep(a[0]);
            case "bring" -> x.bring(a[0]);
            case "as" -> x.as(a[0], a[1]);
            case "sheet" -> x.sheet(a[0], a[1], a[2]);
            case "write" -> x.write(a[0], a[1], a[2]);
            case "copy" -> x.copy(a[0], a[1], a[2], a[3], a[4]);
            case "lay" -> x.lay(a[0]);
            case "undo" -> x.undo();
            case "told" -> x.told(a[0]);
            default -> throw new IllegalStateException(call);
        };
    }
}
