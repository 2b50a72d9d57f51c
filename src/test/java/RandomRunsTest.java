final class RandomRunsTest {
    static void run() { }
}
