section GQ
theorem g_layers {x : Int} (h1 : -2147483648 ≤ x) (h2 : x ≤ 2147483647) : Good 37 38 [.int (iI x)] := fun L T n o d w v I => by
  obtain ⟨q, e1, e2⟩ := q_layers (d := d + 197) (L := L) (T := T) (o := o) (n := n) (v := v) I.1 h1 h2
  exact ⟨w, v, o, ⟨q, w, e1, e2⟩, I, rfl⟩
theorem g_feels {x y : Int} (hx1 : -2147483648 ≤ x) (hx2 : x ≤ 2147483647) (hy1 : -2147483648 ≤ y) (hy2 : y ≤ 2147483647) : Good 35 36 [.int (iI x), .int (iI y)] := fun L T n o d w v I => by
  obtain ⟨q, e1, e2⟩ := q_feels (d := d + 180) (L := L) (T := T) (o := o) (n := n) (v := v) I.1 hx1 hx2 hy1 hy2
  exact ⟨w, v, o, ⟨q, w, e1, e2⟩, I, rfl⟩
theorem g_strongest {x : Int} (hx1 : -2147483648 ≤ x) (hx2 : x ≤ 2147483647) : Good 59 60 [.int (iI x)] := fun L T n o d w v I => by
  obtain ⟨q, e1, e2⟩ := q_strongest (d := d + 180) (L := L) (T := T) (o := o) (n := n) (v := v) I.1 hx1 hx2
  exact ⟨w, v, o, ⟨q, w, e1, e2⟩, I, rfl⟩
theorem g_gladdest : Good 101 102 [] := fun L T n o d w v I => by
  obtain ⟨q, e1, e2⟩ := q_gladdest (d := d + 180) (L := L) (T := T) (o := o) (n := n) (v := v) I.1 
  exact ⟨w, v, o, ⟨q, w, e1, e2⟩, I, rfl⟩
theorem g_loved {x : Int} (hx1 : -2147483648 ≤ x) (hx2 : x ≤ 2147483647) : Good 103 104 [.int (iI x)] := fun L T n o d w v I => by
  obtain ⟨q, e1, e2⟩ := q_loved (d := d + 180) (L := L) (T := T) (o := o) (n := n) (v := v) I.1 hx1 hx2
  exact ⟨w, v, o, ⟨q, w, e1, e2⟩, I, rfl⟩
theorem g_eldest : Good 107 108 [] := fun L T n o d w v I => by
  obtain ⟨q, e1, e2⟩ := q_eldest (d := d + 180) (L := L) (T := T) (o := o) (n := n) (v := v) I.1 
  exact ⟨w, v, o, ⟨q, w, e1, e2⟩, I, rfl⟩
theorem g_book {x y : Int} (hx1 : -2147483648 ≤ x) (hx2 : x ≤ 2147483647) (hy1 : -2147483648 ≤ y) (hy2 : y ≤ 2147483647) : Good 43 44 [.int (iI x), .int (iI y)] := fun L T n o d w v I => by
  obtain ⟨q, e1, e2⟩ := q_book (d := d + 180) (L := L) (T := T) (o := o) (n := n) (v := v) I.1 hx1 hx2 hy1 hy2
  exact ⟨w, v, o, ⟨q, w, e1, e2⟩, I, rfl⟩
theorem g_ledger {x : Int} (hx1 : -2147483648 ≤ x) (hx2 : x ≤ 2147483647) : Good 109 110 [.int (iI x)] := fun L T n o d w v I => by
  obtain ⟨q, e1, e2⟩ := q_ledger (d := d + 180) (L := L) (T := T) (o := o) (n := n) (v := v) I.1 hx1 hx2
  exact ⟨w, v, o, ⟨q, w, e1, e2⟩, I, rfl⟩
theorem g_rid {x y : Int} (hx1 : -2147483648 ≤ x) (hx2 : x ≤ 2147483647) (hy1 : -2147483648 ≤ y) (hy2 : y ≤ 2147483647) : Good 55 56 [.int (iI x), .int (iI y)] := fun L T n o d w v I => by
  obtain ⟨q, e1, e2⟩ := q_rid (d := d + 180) (L := L) (T := T) (o := o) (n := n) (v := v) I.1 hx1 hx2 hy1 hy2
  exact ⟨w, v, o, ⟨q, w, e1, e2⟩, I, rfl⟩
theorem g_where {x : Int} (hx1 : -2147483648 ≤ x) (hx2 : x ≤ 2147483647) : Good 71 72 [.int (iI x)] := fun L T n o d w v I => by
  obtain ⟨q, e1, e2⟩ := q_where (d := d + 180) (L := L) (T := T) (o := o) (n := n) (v := v) I.1 hx1 hx2
  exact ⟨w, v, o, ⟨q, w, e1, e2⟩, I, rfl⟩
theorem g_meets {x y : Int} (hx1 : -2147483648 ≤ x) (hx2 : x ≤ 2147483647) (hy1 : -2147483648 ≤ y) (hy2 : y ≤ 2147483647) : Good 73 74 [.int (iI x), .int (iI y)] := fun L T n o d w v I => by
  obtain ⟨q, e1, e2⟩ := q_meets (d := d + 180) (L := L) (T := T) (o := o) (n := n) (v := v) I.1 hx1 hx2 hy1 hy2
  exact ⟨w, v, o, ⟨q, w, e1, e2⟩, I, rfl⟩
theorem g_fault {x : Int} (hx1 : -2147483648 ≤ x) (hx2 : x ≤ 2147483647) : Good 15 16 [.int (iI x)] := fun L T n o d w v I => by
  obtain ⟨q, e1, e2⟩ := q_fault (d := d + 180) (L := L) (T := T) (o := o) (n := n) (v := v) I.2.2.2.2.2.2.1.1 I.2.2.2.2.2.2.1.2 hx1 hx2
  exact ⟨w, v, o, ⟨q, w, e1, e2⟩, I, rfl⟩
theorem g_about {x : Int} (hx1 : -2147483648 ≤ x) (hx2 : x ≤ 2147483647) : Good 115 116 [.int (iI x)] := fun L T n o d w v I => by
  obtain ⟨q, e1, e2⟩ := q_about (d := d + 180) (L := L) (T := T) (o := o) (n := n) (v := v) I.1 I.2.2.2.2.2.1.1.2.2 hx1 hx2
  exact ⟨w, v, o, ⟨q, w, e1, e2⟩, I, rfl⟩
theorem g_thin {x : Int} (hx1 : -2147483648 ≤ x) (hx2 : x ≤ 2147483647) : Good 61 62 [.int (iI x)] := fun L T n o d w v I => by
  obtain ⟨q, e1, e2⟩ := q_thin (d := d + 180) (L := L) (T := T) (o := o) (n := n) (v := v) I.1 hx1 hx2
  exact ⟨w, v, o, ⟨q, w, e1, e2⟩, I, rfl⟩
theorem g_card {x y : Int} (hx1 : -2147483648 ≤ x) (hx2 : x ≤ 2147483647) (hy1 : -2147483648 ≤ y) (hy2 : y ≤ 2147483647) : Good 7 8 [.int (iI x), .int (iI y)] := fun L T n o d w v I => by
  obtain ⟨w2, ⟨q, w1, e1, e2⟩, W, F⟩ := s_card (d := d + 180) (L := L) (T := T) (o := o) (n := n) (v := v) I.1 hx1 hx2 hy1 hy2
  exact ⟨w2, v, o, ⟨q, w1, e1, e2⟩, I.fr W F, F.1 1000002 (by omega)⟩
theorem g_feel {x y z : Int} (hx1 : -2147483648 ≤ x) (hx2 : x ≤ 2147483647) (hy1 : -2147483648 ≤ y) (hy2 : y ≤ 2147483647) (hz1 : -2147483648 ≤ z) (hz2 : z ≤ 2147483647) : Good 5 6 [.int (iI x), .int (iI y), .int (iI z)] := fun L T n o d w v I => by
  obtain ⟨w2, ⟨q, w1, e1, e2⟩, W, F⟩ := s_feel (d := d + 180) (L := L) (T := T) (o := o) (n := n) (v := v) I.1 hx1 hx2 hy1 hy2 hz1 hz2
  exact ⟨w2, v, o, ⟨q, w1, e1, e2⟩, I.fr W F, F.1 1000002 (by omega)⟩
theorem g_house {x y : Int} (hx1 : -2147483648 ≤ x) (hx2 : x ≤ 2147483647) (hy1 : -2147483648 ≤ y) (hy2 : y ≤ 2147483647) : Good 83 84 [.int (iI x), .int (iI y)] := fun L T n o d w v I => by
  obtain ⟨w2, ⟨q, w1, e1, e2⟩, W, F⟩ := s_house (d := d + 180) (L := L) (T := T) (o := o) (n := n) (v := v) I.1 hx1 hx2 hy1 hy2
  exact ⟨w2, v, o, ⟨q, w1, e1, e2⟩, I.fr W F, F.1 1000002 (by omega)⟩
theorem g_value {x y z : Int} (hx1 : -2147483648 ≤ x) (hx2 : x ≤ 2147483647) (hy1 : -2147483648 ≤ y) (hy2 : y ≤ 2147483647) (hz1 : -2147483648 ≤ z) (hz2 : z ≤ 2147483647) : Good 91 92 [.int (iI x), .int (iI y), .int (iI z)] := fun L T n o d w v I => by
  obtain ⟨w2, ⟨q, w1, e1, e2⟩, W, F⟩ := s_value (d := d + 180) (L := L) (T := T) (o := o) (n := n) (v := v) I.1 hx1 hx2 hy1 hy2 hz1 hz2
  exact ⟨w2, v, o, ⟨q, w1, e1, e2⟩, I.fr W F, F.1 1000002 (by omega)⟩
theorem g_by {x : Int} (hx1 : -2147483648 ≤ x) (hx2 : x ≤ 2147483647) : Good 17 18 [.int (iI x)] := fun L T n o d w v I => by
  obtain ⟨w2, ⟨q, w1, e1, e2⟩, W, F⟩ := s_by (d := d + 180) (L := L) (T := T) (o := o) (n := n) (v := v) I.1 hx1 hx2
  exact ⟨w2, v, o, ⟨q, w1, e1, e2⟩, I.fr W F, F.1 1000002 (by omega)⟩
theorem g_clue {x y : Int} (hx1 : -2147483648 ≤ x) (hx2 : x ≤ 2147483647) (hy1 : -2147483648 ≤ y) (hy2 : y ≤ 2147483647) : Good 65 66 [.int (iI x), .int (iI y)] := fun L T n o d w v I => by
  obtain ⟨w2, ⟨q, w1, e1, e2⟩, W, F⟩ := s_clue (d := d + 180) (L := L) (T := T) (o := o) (n := n) (v := v) I.1 hx1 hx2 hy1 hy2
  exact ⟨w2, v, o, ⟨q, w1, e1, e2⟩, I.fr W F, F.1 1000002 (by omega)⟩
theorem g_test {x y : Int} (hx1 : -2147483648 ≤ x) (hx2 : x ≤ 2147483647) (hy1 : 0 ≤ y) (hy2 : y ≤ 1) : Good 77 78 [.int (iI x), .int (iI y)] := fun L T n o d w v I => by
  obtain ⟨w2, ⟨q, w1, e1, e2⟩, W, F⟩ := s_test (d := d + 180) (L := L) (T := T) (o := o) (n := n) (v := v) I.1 hx1 hx2 hy1 hy2
  exact ⟨w2, v, o, ⟨q, w1, e1, e2⟩, I.fr W F, F.1 1000002 (by omega)⟩
theorem g_said {x y z : Int} (hx1 : -2147483648 ≤ x) (hx2 : x ≤ 2147483647) (hy1 : -2147483648 ≤ y) (hy2 : y ≤ 2147483647) (hz1 : -2147483648 ≤ z) (hz2 : z ≤ 2147483647) : Good 97 98 [.int (iI x), .int (iI y), .int (iI z)] := fun L T n o d w v I => by
  obtain ⟨w2, ⟨q, w1, e1, e2⟩, W, F⟩ := s_said (d := d + 180) (L := L) (T := T) (o := o) (n := n) (v := v) I.1 hx1 hx2 hy1 hy2 hz1 hz2
  exact ⟨w2, v, o, ⟨q, w1, e1, e2⟩, I.fr W F, F.1 1000002 (by omega)⟩
theorem g_of {x y : Int} (hx1 : -2147483648 ≤ x) (hx2 : x ≤ 2147483647) (hy1 : -2147483648 ≤ y) (hy2 : y ≤ 2147483647) : Good 33 34 [.int (iI x), .int (iI y)] := fun L T n o d w v I => by
  obtain ⟨q, e1, e2⟩ := q_of (d := d + 180) (L := L) (T := T) (o := o) (n := n) (v := v) I.1 hx1 hx2 hy1 hy2
  exact ⟨w, v, o, ⟨q, w, e1, e2⟩, I, rfl⟩
theorem g_is {x : Int} (hx1 : -2147483648 ≤ x) (hx2 : x ≤ 2147483647) : Good 41 42 [.int (iI x)] := fun L T n o d w v I => by
  obtain ⟨q, e1, e2⟩ := q_is (d := d + 180) (L := L) (T := T) (o := o) (n := n) (v := v) I.1 hx1 hx2
  exact ⟨w, v, o, ⟨q, w, e1, e2⟩, I, rfl⟩
theorem g_suspects {x : Int} (hx1 : -2147483648 ≤ x) (hx2 : x ≤ 2147483647) : Good 79 80 [.int (iI x)] := fun L T n o d w v I => by
  obtain ⟨q, e1, e2⟩ := q_suspects (d := d + 180) (L := L) (T := T) (o := o) (n := n) (v := v) I.1 hx1 hx2
  exact ⟨w, v, o, ⟨q, w, e1, e2⟩, I, rfl⟩
theorem g_surest : Good 81 82 [] := fun L T n o d w v I => by
  obtain ⟨q, e1, e2⟩ := q_surest (d := d + 180) (L := L) (T := T) (o := o) (n := n) (v := v) I.1 
  exact ⟨w, v, o, ⟨q, w, e1, e2⟩, I, rfl⟩
theorem g_feud {x : Int} (hx0 : 0 ≤ x) (hx1 : x ≤ 1) : Good 105 106 [.int (iI x)] := fun L T n o d w v I => by
  obtain ⟨q, e1, e2⟩ := q_feud (d := d + 180) (L := L) (T := T) (o := o) (n := n) (v := v) I.1 hx0 hx1
  exact ⟨w, v, o, ⟨q, w, e1, e2⟩, I, rfl⟩
theorem g_alone {x : Int} (hx1 : -2147483648 ≤ x) (hx2 : x ≤ 2147483647) : Good 57 58 [.int (iI x)] := fun L T n o d w v I => by
  obtain ⟨q, e1, e2⟩ := q_alone (d := d + 180) (L := L) (T := T) (o := o) (n := n) (v := v) I.1 hx1 hx2
  exact ⟨w, v, o, ⟨q, w, e1, e2⟩, I, rfl⟩
theorem g_link {x y : Int} (hx1 : -2147483648 ≤ x) (hx2 : x ≤ 2147483647) (hy1 : -2147483648 ≤ y) (hy2 : y ≤ 2147483647) : Good 75 76 [.int (iI x), .int (iI y)] := fun L T n o d w v I => by
  obtain ⟨q, e1, e2⟩ := q_link (d := d + 180) (L := L) (T := T) (o := o) (n := n) (v := v) I.1 hx1 hx2 hy1 hy2
  exact ⟨w, v, o, ⟨q, w, e1, e2⟩, I, rfl⟩
theorem g_which : Good 67 68 [] := fun L T n o d w v I => by
  obtain ⟨q, e1, e2⟩ := q_which (d := d + 180) (L := L) (T := T) (o := o) (n := n) (v := v) I.1 
  exact ⟨w, v, o, ⟨q, w, e1, e2⟩, I, rfl⟩
theorem g_ask : Good 69 70 [] := fun L T n o d w v I => by
  obtain ⟨q, e1, e2⟩ := q_ask (d := d + 180) (L := L) (T := T) (o := o) (n := n) (v := v) I.1 
  exact ⟨w, v, o, ⟨q, w, e1, e2⟩, I, rfl⟩
theorem g_goes {x y : Int} (hx1 : -2147483648 ≤ x) (hx2 : x ≤ 2147483647) (hy1 : -2147483648 ≤ y) (hy2 : y ≤ 2147483647) : Good 85 86 [.int (iI x), .int (iI y)] := fun L T n o d w v I => by
  obtain ⟨q, e1, e2⟩ := q_goes (d := d + 180) (L := L) (T := T) (o := o) (n := n) (v := v) I.1 hx1 hx2 hy1 hy2
  exact ⟨w, v, o, ⟨q, w, e1, e2⟩, I, rfl⟩
theorem g_meet {x y : Int} (hx1 : -2147483648 ≤ x) (hx2 : x ≤ 2147483647) (hy1 : -2147483648 ≤ y) (hy2 : y ≤ 2147483647) : Good 87 88 [.int (iI x), .int (iI y)] := fun L T n o d w v I => by
  obtain ⟨q, e1, e2⟩ := q_meet (d := d + 180) (L := L) (T := T) (o := o) (n := n) (v := v) I.1 hx1 hx2 hy1 hy2
  exact ⟨w, v, o, ⟨q, w, e1, e2⟩, I, rfl⟩
theorem g_comes {x : Int} (hx1 : -2147483648 ≤ x) (hx2 : x ≤ 2147483647) : Good 89 90 [.int (iI x)] := fun L T n o d w v I => by
  obtain ⟨q, e1, e2⟩ := q_comes (d := d + 180) (L := L) (T := T) (o := o) (n := n) (v := v) I.1 hx1 hx2
  exact ⟨w, v, o, ⟨q, w, e1, e2⟩, I, rfl⟩
end GQ
