import java.util.Arrays;
import java.util.stream.Collectors;

/** A call of the face, told by its name and its numbers: tests can make many by a rule, and print the one that is wrong. */
record Call(String name, int... numbers) {

    int on(SameAgain x) {
        int[] n = numbers;
        switch (name) {
            case "say": return x.say(n[0]);
            case "wipe": return x.wipe();
            case "line": return x.line();
            case "change": return x.change(n[0]);
            case "version": return x.version();
            case "sign": return x.sign(n[0], n[1], n[2]);
            case "alike": return x.alike(n[0], n[1], n[2], n[3], n[4]);
            case "longest": return x.longest(n[0], n[1], n[2]);
            case "like": return x.like(n[0], n[1], n[2], n[3]);
            case "groups": return x.groups(n[0], n[1], n[2], n[3]);
            case "whole": return x.whole(n[0], n[1], n[2], n[3]);
            case "pulled": return x.pulled(n[0], n[1], n[2], n[3], n[4]);
            case "best": return x.best(n[0], n[1], n[2]);
            case "two": return x.two(n[0], n[1]);
            case "forgotten": return x.forgotten(n[0], n[1], n[2], n[3], n[4]);
            case "parted": return x.parted(n[0], n[1], n[2], n[3]);
            case "mends": return x.mends(n[0], n[1], n[2], n[3]);
            case "mend": return x.mend(n[0], n[1], n[2], n[3], n[4], n[5]);
            case "far": return x.far(n[0], n[1], n[2]);
            case "near": return x.near(n[0], n[1], n[2]);
            case "image": return x.image(n[0]);
            case "restore": return x.restore(n[0]);
            case "told": return x.told(n[0]);
            default: throw new IllegalArgumentException(name);
        }
    }

    @Override
    public String toString() {
        return name + Arrays.stream(numbers).mapToObj(String::valueOf).collect(Collectors.joining(", ", "(", ")"));
    }
}
