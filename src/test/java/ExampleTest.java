/** The example of README.md, line by line, with the answers that its comments tell. */
public final class ExampleTest {
    public static void main(String[] args) {
        SkyAdvisor sky = new SkyAdvisor();
        sky.place(0, 0, 0, 1000);
        sky.place(1, 20000, 500, 1100);
        sky.speed(0, 200, 0, 5);
        sky.speed(1, -250, 0, -4);
        Due.same("advised", sky.step(15), 1);
        Due.same("sense", sky.pair(0, 1, 2), 1);
        Due.same("other", sky.pair(1, 0, 2), 2);
        Due.same("strength", sky.pair(0, 1, 3), 1);
        Due.same("later", sky.step(60), 0);
        Due.same("ended", sky.all(3), 1);
        Due.same("before", sky.set(0, 40), 30);
        Due.end();
    }
}
