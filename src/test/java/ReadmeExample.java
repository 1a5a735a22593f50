public final class ReadmeExample {
    public static void main(String[] args) {
        CaptionHouse house = new CaptionHouse();
        house.addShot(100);                      // shot 0, at the places 0 to 99
        int caption = house.add(10, 50);         // caption 0, on the frames at the places 10 to 59
        house.type(caption, 0, 'H');             // signs are typed one by one, by their code points
        house.type(caption, 0, 'i');

        house.cut(0, 5);                         // the caption moves with its frames
        System.out.println("start " + house.startOf(caption) + ", length " + house.lengthOf(caption));

        try {
            house.cut(90, 10);                   // there are just 5 frames from the place 90 on
        } catch (IndexOutOfBoundsException e) {
            System.out.println("refused, and still " + house.frames() + " frames");
        }

        int rules = house.broken(caption, 1);    // nothing is typed in the tongue 1: bit EMPTY
        System.out.println("broken " + rules + ", faults " + house.faults(1));
        house.letGo(caption, 1, CaptionHouse.EMPTY, 7);
        System.out.println("let go by " + house.nameOf(caption, 1, CaptionHouse.EMPTY) + ", faults " + house.faults(1));

        int length = house.written(0, 0);
        for (int i = 0; i < length; i++) {
            System.out.print(house.writtenChar(0, 0, i));
        }
    }
}
