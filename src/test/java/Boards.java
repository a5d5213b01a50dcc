import java.util.ArrayList;
import java.util.List;
import java.util.Random;

/** Makes up texts of boards whose joints stand near each other, so that arms meet and bars cross. */
final class Boards {
    private final Random random;
    private final List<String> clauses = new ArrayList<>();
    private final int joints;
    private final boolean loose;

    Boards(Random random) {
        this.random = random;
        joints = 2 + random.nextInt(random.nextInt(3) == 0 ? 15 : 7);
        loose = random.nextInt(6) == 0;
    }

    /** Pins and far ends of bars only, so that many bars cross. */
    static String dense(Random random) {
        StringBuilder text = new StringBuilder("pin 30 30;wheel 0 5;");
        int pins = 6 + random.nextInt(8);
        int reach = 4 + random.nextInt(60);
        for (int i = 0; i < pins; i++) {
            text.append("pin ").append(random.nextInt(reach)).append(" ").append(random.nextInt(reach)).append(";");
        }
        for (int i = 0; i < 8; i++) {
            int a = random.nextInt(pins + 2);
            int b = (a + 1 + random.nextInt(pins + 1)) % (pins + 2);
            text.append("bar ").append(a).append(" ").append(b).append(" 5;");
        }
        return text.append("stop x 1<").append(20 + random.nextInt(16)).append(";pencil 1;").toString();
    }

    /** Joints thrown far out, up to the edge and beyond, with arms and slots round them. */
    static String far(Random random) {
        StringBuilder text = new StringBuilder("pin 0 0;pin " + (120 + random.nextInt(8)) + " " + (120 + random.nextInt(8))
                + ";along 0 1 16;along 0 2 16;pin " + random.nextInt(3) + " " + random.nextInt(3) + ";wheel 4 5;");
        for (int j = 6; j < 16; j++) {
            int a = random.nextInt(j);
            int b = (a + 1 + random.nextInt(j - 1)) % j;
            switch (random.nextInt(8)) {
                case 0 -> text.append("slot ").append(a).append(" ").append(1 + random.nextInt(99)).append(" ")
                        .append(random.nextInt(2)).append(" ").append(random.nextInt(50)).append(" 1;");
                case 1, 2, 3 -> text.append("arm ").append(a).append(" ").append(1 + random.nextInt(9)).append(" ").append(b)
                        .append(" ").append(1 + random.nextInt(9)).append(" ").append(random.nextInt(2)).append(";");
                case 4 -> text.append("along ").append(a).append(" ").append(b).append(" ").append(random.nextInt(17)).append(";");
                default -> text.append("copy ").append(random.nextBoolean() ? 3 : a).append(" ").append(b).append(" ")
                        .append(random.nextInt(j)).append(";");
            }
        }
        return text.append("bar 3 15 9;bar 7 8 9;bar 9 10 9;pencil 15;").toString();
    }

    String text() {
        int wheelAt = random.nextInt(4) == 0 ? -1 : 1;
        int size = random.nextInt(3);
        clauses.add(pin(size));
        for (int j = 1; j < joints; j++) {
            clauses.add(j == wheelAt ? "wheel " + (loose ? name(j) : 0) + " " + List.of(5, 25, 65).get(size) : joint(j, size));
        }
        int bars = random.nextInt(9);
        for (int i = 0; i < bars; i++) {
            int a = random.nextInt(joints);
            int b = (a + 1 + random.nextInt(joints - 1)) % joints;
            clauses.add("bar " + a + " " + b + " " + barLength(a, b));
        }
        if (random.nextInt(5) > 0) {
            clauses.add("pencil " + (random.nextInt(3) == 0 ? random.nextInt(joints) : joints - 1));
        }
        int stops = random.nextInt(5) / 2;
        for (int i = 0; i < stops; i++) {
            clauses.add("stop " + choice(0));
        }
        StringBuilder text = new StringBuilder();
        for (String clause : clauses) {
            if (text.length() + clause.length() < 600) {
                text.append(clause).append(";");
            }
        }
        return text.toString();
    }

    /** Often a length that an arm or a wheel gives between just these two. */
    private int barLength(int a, int b) {
        for (int end : new int[] {Math.max(a, b), Math.min(a, b)}) {
            String[] told = clauses.get(end).split(" ");
            if (told[0].equals("arm") && random.nextInt(8) > 0) {
                return Integer.parseInt(told[1].equals("" + (a + b - end)) ? told[2] : told[4]);
            }
            if ((told[0].equals("wheel") || told[0].equals("slot")) && random.nextInt(8) > 0) {
                return Integer.parseInt(told[2]);
            }
        }
        return 1 + random.nextInt(random.nextInt(2) == 0 ? 20 : 999);
    }

    private String pin(int size) {
        int reach = new int[] {20, 60, 200}[size];
        return "pin " + random.nextInt(reach) + " " + random.nextInt(reach);
    }

    private int name(int below) {
        return loose && random.nextInt(4) == 0 ? random.nextInt(joints) : random.nextInt(Math.max(1, below));
    }

    private String joint(int j, int size) {
        int a = name(j);
        int b = name(j);
        boolean two = a != b;
        switch (random.nextInt(9)) {
            case 0, 1, 2, 3:
                return two ? "arm " + a + " " + length(size) + " " + b + " " + length(size) + " " + random.nextInt(2) : pin(size);
            case 4:
                return "slot " + a + " " + length(size) + " " + random.nextInt(2) + " " + random.nextInt(40) + " " + random.nextInt(2);
            case 5:
                return "copy " + a + " " + b + " " + name(j);
            case 6, 7:
                return two ? "along " + a + " " + b + " " + (random.nextInt(4) == 0 ? 16 : random.nextInt(17)) : pin(size);
            default:
                return pin(size);
        }
    }

    private int length(int size) {
        return switch (random.nextInt(4)) {
            case 0 -> 5 * (1 + random.nextInt(19));
            case 1 -> 1 + random.nextInt(99);
            default -> 1 + random.nextInt(new int[] {25, 60, 99}[size]);
        };
    }

    private String choice(int depth) {
        StringBuilder text = new StringBuilder(both(depth));
        while (random.nextInt(3) == 0 && depth < 3) {
            text.append(" or ").append(both(depth));
        }
        return text.toString();
    }

    private String both(int depth) {
        StringBuilder text = new StringBuilder(claim(depth));
        while (random.nextInt(2) == 0 && depth < 3) {
            text.append(" and ").append(claim(depth));
        }
        return text.toString();
    }

    private String claim(int depth) {
        switch (random.nextInt(depth < 3 ? 6 : 4)) {
            case 4:
                return "not " + claim(depth + 1);
            case 5:
                return "[" + choice(depth + 1) + "]";
            default:
                return sum(depth) + "<>=".charAt(random.nextInt(3)) + sum(depth);
        }
    }

    private String sum(int depth) {
        StringBuilder text = new StringBuilder(unit(depth));
        while (random.nextInt(3) == 0) {
            text.append(random.nextBoolean() ? "+" : "-").append(unit(depth));
        }
        return text.toString();
    }

    private String unit(int depth) {
        switch (random.nextInt(depth < 3 ? 6 : 5)) {
            case 0, 1:
                return "" + random.nextInt(60);
            case 2, 3:
                return "x " + random.nextInt(joints);
            case 4:
                return "y " + random.nextInt(joints);
            default:
                return "(" + sum(depth + 1) + ")";
        }
    }
}
