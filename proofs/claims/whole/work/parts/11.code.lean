def lwL : List Nat := [31, 47, 55, 59, 61, 62, 79, 87, 91, 93, 94, 103, 107, 109, 110, 115, 117, 118, 121, 122, 124, 143, 151, 155, 157, 158, 167, 171, 173, 174, 179, 181, 182, 185, 186, 188, 199, 203, 205, 206, 211, 213, 214, 217, 218, 220, 227, 229, 230, 233, 234, 236, 241, 242, 244, 248, 271, 279, 283, 285, 286, 295, 299, 301, 302, 307, 309, 310, 313, 314, 316, 327, 331, 333, 334, 339, 341, 342, 345, 346, 348, 355, 357, 358, 361, 362, 364, 369, 370, 372, 376, 391, 395, 397, 398, 403, 405, 406, 409, 410, 412, 419, 421, 422, 425, 426, 428, 433, 434, 436, 440, 451, 453, 454, 457, 458, 460, 465, 466, 468, 472, 481, 482, 484, 488, 496, 527, 535, 539, 541, 542, 551, 555, 557, 558, 563, 565, 566, 569, 570, 572, 583, 587, 589, 590, 595, 597, 598, 601, 602, 604, 611, 613, 614, 617, 618, 620, 625, 626, 628, 632, 647, 651, 653, 654, 659, 661, 662, 665, 666, 668, 675, 677, 678, 681, 682, 684, 689, 690, 692, 696, 707, 709, 710, 713, 714, 716, 721, 722, 724, 728, 737, 738, 740, 744, 752, 775, 779, 781, 782, 787, 789, 790, 793, 794, 796, 803, 805, 806, 809, 810, 812, 817, 818, 820, 824, 835, 837, 838, 841, 842, 844, 849, 850, 852, 856, 865, 866, 868, 872, 880, 899, 901, 902, 905, 906, 908, 913, 914, 916, 920, 929, 930, 932, 936, 944, 961, 962, 964, 968, 976, 992, 63, 95, 111, 119, 123, 125, 126, 159, 175, 183, 187, 189]
def unL : List Nat := [63, 95, 111, 119, 123, 125, 126, 159, 175, 183, 187, 189]
def vlL : List Nat := [0, 0, 0, 0, 0, 0, 0, 0, 0, 0, 0, 0, 0, 0, 0, 0, 0, 0, 0, 0, 0, 0, 0, 0, 0, 0, 0, 0, 0, 0, 0, 1, 0, 0, 0, 0, 0, 0, 0, 0, 0, 0, 0, 0, 0, 0, 0, 2, 0, 0, 0, 0, 0, 0, 0, 3, 0, 0, 0, 4, 0, 5, 6, 253, 0, 0, 0, 0, 0, 0, 0, 0, 0, 0, 0, 0, 0, 0, 0, 7, 0, 0, 0, 0, 0, 0, 0, 8, 0, 0, 0, 9, 0, 10, 11, 254, 0, 0, 0, 0, 0, 0, 0, 12, 0, 0, 0, 13, 0, 14, 15, 255, 0, 0, 0, 16, 0, 17, 18, 256, 0, 19, 20, 257, 21, 258, 259, 0, 0, 0, 0, 0, 0, 0, 0, 0, 0, 0, 0, 0, 0, 0, 0, 22, 0, 0, 0, 0, 0, 0, 0, 23, 0, 0, 0, 24, 0, 25, 26, 260, 0, 0, 0, 0, 0, 0, 0, 27, 0, 0, 0, 28, 0, 29, 30, 261, 0, 0, 0, 31, 0, 32, 33, 262, 0, 34, 35, 263, 36, 264, 0, 0, 0, 0, 0, 0, 0, 0, 0, 37, 0, 0, 0, 38, 0, 39, 40, 0, 0, 0, 0, 41, 0, 42, 43, 0, 0, 44, 45, 0, 46, 0, 0, 0, 0, 0, 0, 47, 0, 48, 49, 0, 0, 50, 51, 0, 52, 0, 0, 0, 0, 53, 54, 0, 55, 0, 0, 0, 56, 0, 0, 0, 0, 0, 0, 0, 0, 0, 0, 0, 0, 0, 0, 0, 0, 0, 0, 0, 0, 0, 0, 57, 0, 0, 0, 0, 0, 0, 0, 58, 0, 0, 0, 59, 0, 60, 61, 0, 0, 0, 0, 0, 0, 0, 0, 62, 0, 0, 0, 63, 0, 64, 65, 0, 0, 0, 0, 66, 0, 67, 68, 0, 0, 69, 70, 0, 71, 0, 0, 0, 0, 0, 0, 0, 0, 0, 0, 72, 0, 0, 0, 73, 0, 74, 75, 0, 0, 0, 0, 76, 0, 77, 78, 0, 0, 79, 80, 0, 81, 0, 0, 0, 0, 0, 0, 82, 0, 83, 84, 0, 0, 85, 86, 0, 87, 0, 0, 0, 0, 88, 89, 0, 90, 0, 0, 0, 91, 0, 0, 0, 0, 0, 0, 0, 0, 0, 0, 0, 0, 0, 0, 92, 0, 0, 0, 93, 0, 94, 95, 0, 0, 0, 0, 96, 0, 97, 98, 0, 0, 99, 100, 0, 101, 0, 0, 0, 0, 0, 0, 102, 0, 103, 104, 0, 0, 105, 106, 0, 107, 0, 0, 0, 0, 108, 109, 0, 110, 0, 0, 0, 111, 0, 0, 0, 0, 0, 0, 0, 0, 0, 0, 112, 0, 113, 114, 0, 0, 115, 116, 0, 117, 0, 0, 0, 0, 118, 119, 0, 120, 0, 0, 0, 121, 0, 0, 0, 0, 0, 0, 0, 0, 122, 123, 0, 124, 0, 0, 0, 125, 0, 0, 0, 0, 0, 0, 0, 126, 0, 0, 0, 0, 0, 0, 0, 0, 0, 0, 0, 0, 0, 0, 0, 0, 0, 0, 0, 0, 0, 0, 0, 0, 0, 0, 0, 0, 0, 0, 127, 0, 0, 0, 0, 0, 0, 0, 128, 0, 0, 0, 129, 0, 130, 131, 0, 0, 0, 0, 0, 0, 0, 0, 132, 0, 0, 0, 133, 0, 134, 135, 0, 0, 0, 0, 136, 0, 137, 138, 0, 0, 139, 140, 0, 141, 0, 0, 0, 0, 0, 0, 0, 0, 0, 0, 142, 0, 0, 0, 143, 0, 144, 145, 0, 0, 0, 0, 146, 0, 147, 148, 0, 0, 149, 150, 0, 151, 0, 0, 0, 0, 0, 0, 152, 0, 153, 154, 0, 0, 155, 156, 0, 157, 0, 0, 0, 0, 158, 159, 0, 160, 0, 0, 0, 161, 0, 0, 0, 0, 0, 0, 0, 0, 0, 0, 0, 0, 0, 0, 162, 0, 0, 0, 163, 0, 164, 165, 0, 0, 0, 0, 166, 0, 167, 168, 0, 0, 169, 170, 0, 171, 0, 0, 0, 0, 0, 0, 172, 0, 173, 174, 0, 0, 175, 176, 0, 177, 0, 0, 0, 0, 178, 179, 0, 180, 0, 0, 0, 181, 0, 0, 0, 0, 0, 0, 0, 0, 0, 0, 182, 0, 183, 184, 0, 0, 185, 186, 0, 187, 0, 0, 0, 0, 188, 189, 0, 190, 0, 0, 0, 191, 0, 0, 0, 0, 0, 0, 0, 0, 192, 193, 0, 194, 0, 0, 0, 195, 0, 0, 0, 0, 0, 0, 0, 196, 0, 0, 0, 0, 0, 0, 0, 0, 0, 0, 0, 0, 0, 0, 0, 0, 0, 0, 0, 0, 0, 0, 197, 0, 0, 0, 198, 0, 199, 200, 0, 0, 0, 0, 201, 0, 202, 203, 0, 0, 204, 205, 0, 206, 0, 0, 0, 0, 0, 0, 207, 0, 208, 209, 0, 0, 210, 211, 0, 212, 0, 0, 0, 0, 213, 214, 0, 215, 0, 0, 0, 216, 0, 0, 0, 0, 0, 0, 0, 0, 0, 264, 217, 263, 218, 219, 0, 262, 220, 221, 0, 222, 0, 0, 0, 261, 223, 224, 0, 225, 0, 0, 0, 226, 0, 0, 0, 0, 0, 0, 0, 260, 227, 228, 0, 229, 0, 0, 0, 230, 0, 0, 0, 0, 0, 0, 0, 231, 0, 0, 0, 0, 0, 0, 0, 0, 0, 0, 0, 0, 0, 0, 0, 0, 259, 258, 232, 257, 233, 234, 0, 256, 235, 236, 0, 237, 0, 0, 0, 255, 238, 239, 0, 240, 0, 0, 0, 241, 0, 0, 0, 0, 0, 0, 0, 254, 242, 243, 0, 244, 0, 0, 0, 245, 0, 0, 0, 0, 0, 0, 0, 246, 0, 0, 0, 0, 0, 0, 0, 0, 0, 0, 0, 0, 0, 0, 0, 253, 247, 248, 0, 249, 0, 0, 0, 250, 0, 0, 0, 0, 0, 0, 0, 251, 0, 0, 0, 0, 0, 0, 0, 0, 0, 0, 0, 0, 0, 0, 0, 252, 0, 0, 0, 0, 0, 0, 0, 0, 0, 0, 0, 0, 0, 0, 0, 0, 0, 0, 0, 0, 0, 0, 0, 0, 0, 0, 0, 0, 0, 0, 0]
def enL : List Nat := [0, 0, 0, 0, 0, 0, 0, 0, 0, 0, 0, 0, 0, 0, 0, 0, 0, 0, 0, 0, 0, 0, 0, 0, 0, 0, 0, 0, 0, 0, 0, 1, 0, 0, 0, 0, 0, 0, 0, 0, 0, 0, 0, 0, 0, 0, 0, 2, 0, 0, 0, 0, 0, 0, 0, 3, 0, 0, 0, 4, 0, 5, 6, 0, 0, 0, 0, 0, 0, 0, 0, 0, 0, 0, 0, 0, 0, 0, 0, 7, 0, 0, 0, 0, 0, 0, 0, 8, 0, 0, 0, 9, 0, 10, 11, 0, 0, 0, 0, 0, 0, 0, 0, 12, 0, 0, 0, 13, 0, 14, 15, 0, 0, 0, 0, 16, 0, 17, 18, 0, 0, 19, 20, 0, 21, 0, 0, 0, 0, 0, 0, 0, 0, 0, 0, 0, 0, 0, 0, 0, 0, 0, 0, 22, 0, 0, 0, 0, 0, 0, 0, 23, 0, 0, 0, 24, 0, 25, 26, 0, 0, 0, 0, 0, 0, 0, 0, 27, 0, 0, 0, 28, 0, 29, 30, 0, 0, 0, 0, 31, 0, 32, 33, 0, 0, 34, 35, 0, 36, 0, 0, 0, 0, 0, 0, 0, 0, 0, 0, 37, 0, 0, 0, 38, 0, 39, 40, 0, 0, 0, 0, 41, 0, 42, 43, 0, 0, 44, 45, 0, 46, 0, 0, 0, 0, 0, 0, 47, 0, 48, 49, 0, 0, 50, 51, 0, 52, 0, 0, 0, 0, 53, 54, 0, 55, 0, 0, 0, 56, 0, 0, 0, 0, 0, 0, 0, 0, 0, 0, 0, 0, 0, 0, 0, 0, 0, 0, 0, 0, 0, 0, 57, 0, 0, 0, 0, 0, 0, 0, 58, 0, 0, 0, 59, 0, 60, 61, 0, 0, 0, 0, 0, 0, 0, 0, 62, 0, 0, 0, 63, 0, 64, 65, 0, 0, 0, 0, 66, 0, 67, 68, 0, 0, 69, 70, 0, 71, 0, 0, 0, 0, 0, 0, 0, 0, 0, 0, 72, 0, 0, 0, 73, 0, 74, 75, 0, 0, 0, 0, 76, 0, 77, 78, 0, 0, 79, 80, 0, 81, 0, 0, 0, 0, 0, 0, 82, 0, 83, 84, 0, 0, 85, 86, 0, 87, 0, 0, 0, 0, 88, 89, 0, 90, 0, 0, 0, 91, 0, 0, 0, 0, 0, 0, 0, 0, 0, 0, 0, 0, 0, 0, 92, 0, 0, 0, 93, 0, 94, 95, 0, 0, 0, 0, 96, 0, 97, 98, 0, 0, 99, 100, 0, 101, 0, 0, 0, 0, 0, 0, 102, 0, 103, 104, 0, 0, 105, 106, 0, 107, 0, 0, 0, 0, 108, 109, 0, 110, 0, 0, 0, 111, 0, 0, 0, 0, 0, 0, 0, 0, 0, 0, 112, 0, 113, 114, 0, 0, 115, 116, 0, 117, 0, 0, 0, 0, 118, 119, 0, 120, 0, 0, 0, 121, 0, 0, 0, 0, 0, 0, 0, 0, 122, 123, 0, 124, 0, 0, 0, 125, 0, 0, 0, 0, 0, 0, 0, 126, 0, 0, 0, 0, 0, 0, 0, 0, 0, 0, 0, 0, 0, 0, 0, 0, 0, 0, 0, 0, 0, 0, 0, 0, 0, 0, 0, 0, 0, 0, 127, 0, 0, 0, 0, 0, 0, 0, 128, 0, 0, 0, 129, 0, 130, 131, 0, 0, 0, 0, 0, 0, 0, 0, 132, 0, 0, 0, 133, 0, 134, 135, 0, 0, 0, 0, 136, 0, 137, 138, 0, 0, 139, 140, 0, 141, 0, 0, 0, 0, 0, 0, 0, 0, 0, 0, 142, 0, 0, 0, 143, 0, 144, 145, 0, 0, 0, 0, 146, 0, 147, 148, 0, 0, 149, 150, 0, 151, 0, 0, 0, 0, 0, 0, 152, 0, 153, 154, 0, 0, 155, 156, 0, 157, 0, 0, 0, 0, 158, 159, 0, 160, 0, 0, 0, 161, 0, 0, 0, 0, 0, 0, 0, 0, 0, 0, 0, 0, 0, 0, 162, 0, 0, 0, 163, 0, 164, 165, 0, 0, 0, 0, 166, 0, 167, 168, 0, 0, 169, 170, 0, 171, 0, 0, 0, 0, 0, 0, 172, 0, 173, 174, 0, 0, 175, 176, 0, 177, 0, 0, 0, 0, 178, 179, 0, 180, 0, 0, 0, 181, 0, 0, 0, 0, 0, 0, 0, 0, 0, 0, 182, 0, 183, 184, 0, 0, 185, 186, 0, 187, 0, 0, 0, 0, 188, 189, 0, 190, 0, 0, 0, 191, 0, 0, 0, 0, 0, 0, 0, 0, 192, 193, 0, 194, 0, 0, 0, 195, 0, 0, 0, 0, 0, 0, 0, 196, 0, 0, 0, 0, 0, 0, 0, 0, 0, 0, 0, 0, 0, 0, 0, 0, 0, 0, 0, 0, 0, 0, 197, 0, 0, 0, 198, 0, 199, 200, 0, 0, 0, 0, 201, 0, 202, 203, 0, 0, 204, 205, 0, 206, 0, 0, 0, 0, 0, 0, 207, 0, 208, 209, 0, 0, 210, 211, 0, 212, 0, 0, 0, 0, 213, 214, 0, 215, 0, 0, 0, 216, 0, 0, 0, 0, 0, 0, 0, 0, 0, 0, 217, 0, 218, 219, 0, 0, 220, 221, 0, 222, 0, 0, 0, 0, 223, 224, 0, 225, 0, 0, 0, 226, 0, 0, 0, 0, 0, 0, 0, 0, 227, 228, 0, 229, 0, 0, 0, 230, 0, 0, 0, 0, 0, 0, 0, 231, 0, 0, 0, 0, 0, 0, 0, 0, 0, 0, 0, 0, 0, 0, 0, 0, 0, 0, 232, 0, 233, 234, 0, 0, 235, 236, 0, 237, 0, 0, 0, 0, 238, 239, 0, 240, 0, 0, 0, 241, 0, 0, 0, 0, 0, 0, 0, 0, 242, 243, 0, 244, 0, 0, 0, 245, 0, 0, 0, 0, 0, 0, 0, 246, 0, 0, 0, 0, 0, 0, 0, 0, 0, 0, 0, 0, 0, 0, 0, 0, 247, 248, 0, 249, 0, 0, 0, 250, 0, 0, 0, 0, 0, 0, 0, 251, 0, 0, 0, 0, 0, 0, 0, 0, 0, 0, 0, 0, 0, 0, 0, 252, 0, 0, 0, 0, 0, 0, 0, 0, 0, 0, 0, 0, 0, 0, 0, 0, 0, 0, 0, 0, 0, 0, 0, 0, 0, 0, 0, 0, 0, 0, 0]
def cd (x : Nat) : Int32 := if x = 0 then -1 else nI (x - 1)
def lw (k : Nat) : Int32 := nI (lwL.getD k 0)
def vl (w : Nat) : Int32 := cd (vlL.getD w 0)
def en (w : Nat) : Int32 := cd (enL.getD w 0)
def eI : Bool → Int32
  | true => 1
  | false => 0
def wd (k : Nat) (e : Bool) : Int32 := if k < 252 then lw k else if e = true then 1023 - lw k else lw k
def popc (w : Nat) : Nat := (List.range 10).foldl (fun n i => n + w / 2 ^ i % 2) 0
/-- what the class's valueOf tells -/
def cvf (w : Nat) (e : Bool) : Int32 := if vl w < 252 then vl w else if (if nI (popc w) < 5 then (1 : Int32) else 0) = eI e then vl w else -2
/-- a search in a row, from place k on, d places -/
def fnd (f : Nat → Int32) (v : Int32) : Nat → Nat → Int32
  | 0, _ => -1
  | d + 1, k => if f k = v then nI k else fnd f v d (k + 1)
theorem fnd_congr {f g : Nat → Int32} {v : Int32} : ∀ (d k : Nat), (∀ j, k ≤ j → j < k + d → f j = g j) → fnd f v d k = fnd g v d k
  | 0, _, _ => rfl
  | d + 1, k, h => by
    simp only [fnd]
    rw [h k (by omega) (by omega), fnd_congr d (k + 1) (fun j h1 h2 => h j (by omega) (by omega))]
def ufn (w : Nat) (e : Bool) : Int32 := fnd (fun k => lw (252 + k)) (if e = true then 1023 - nI w else nI w) 12 0
def mvf (w : Nat) (e : Bool) : Int32 := if en w = -1 then (if ufn w e = -1 then -1 else 252 + ufn w e) else en w
def TabC (M : Mem) : Prop := (∀ k, k < 264 → M 2 k = lw k) ∧ (∀ w, w < 1024 → M 3 w = vl w)
def TabM (M : Mem) : Prop := (∀ k, k < 252 → M 41 k = lw k) ∧ (∀ w, w < 1024 → M 42 w = en w) ∧ (∀ k, k < 12 → M 43 k = lw (252 + k))
theorem TabC.fr {M M' : Mem} {ex : List Nat} (h : TabC M) (F : Fr ex M M') (h2 : 2 ∉ ex) (h3 : 3 ∉ ex) : TabC M' := ⟨fun k q => by rw [F 2 h2]; exact h.1 k q, fun k q => by rw [F 3 h3]; exact h.2 k q⟩
theorem TabM.fr {M M' : Mem} {ex : List Nat} (h : TabM M) (F : Fr ex M M') (h1 : 41 ∉ ex) (h2 : 42 ∉ ex) (h3 : 43 ∉ ex) : TabM M' := ⟨fun k q => by rw [F 41 h1]; exact h.1 k q, fun k q => by rw [F 42 h2]; exact h.2.1 k q, fun k q => by rw [F 43 h3]; exact h.2.2 k q⟩
set_option maxRecDepth 100000 in
theorem wd_tab : ∀ k, k < 264 → (k < 252 → wd k true = lw k ∧ wd k false = lw k) ∧ (252 ≤ k → wd k true = 1023 ^^^ lw k ∧ wd k false = lw k) := by decide +kernel
def fnc (g : Nat → Nat) (x : Nat) : Nat → Nat → Nat
  | 0, _ => 0
  | d + 1, k => if g k = x then k + 1 else fnc g x d (k + 1)
def ufc (w : Nat) (e : Bool) : Nat := fnc (fun k => unL.getD k 0) (if e = true then 1023 - w else w) 12 0
def chkw (w a b : Nat) : Bool := (Nat.blt 0 a && Nat.beq b a && Nat.ble a 252 && Nat.beq (ufc w false) 0 && Nat.beq (ufc w true) 0) || (Nat.beq a 0 && Nat.beq b 0 && Nat.beq (ufc w false) 0 && Nat.beq (ufc w true) 0) || (Nat.beq a 0 && Nat.blt 0 (ufc w false) && Nat.beq (ufc w true) 0 && Nat.beq b (252 + ufc w false) && Nat.beq (popc w) 6 && Nat.ble (ufc w false) 12) || (Nat.beq a 0 && Nat.beq (ufc w false) 0 && Nat.blt 0 (ufc w true) && Nat.beq b (252 + ufc w true) && Nat.beq (popc w) 4 && Nat.ble (ufc w true) 12)
def chkL : List Nat → List Nat → Nat → Bool
  | a :: as, b :: bs, w => chkw w a b && chkL as bs (w + 1)
  | _, _, _ => true
theorem chkL_ok : ∀ (as bs : List Nat) (w : Nat), chkL as bs w = true → ∀ j, j < as.length → j < bs.length → chkw (w + j) (as.getD j 0) (bs.getD j 0) = true
  | [], _, _, _, j, h1, _ => absurd h1 (by simp)
  | _ :: _, [], _, _, j, _, h2 => absurd h2 (by simp)
  | a :: as, b :: bs, w, h, j, h1, h2 => by
    simp only [chkL, Bool.and_eq_true] at h
    cases j with
    | zero => simpa using h.1
    | succ j =>
      have := chkL_ok as bs (w + 1) h.2 j (by simpa using h1) (by simpa using h2)
      rw [show w + (j + 1) = w + 1 + j by omega]
      simpa using this
set_option maxRecDepth 100000 in
theorem chk_tab : chkL enL vlL 0 = true := by decide +kernel
set_option maxRecDepth 100000 in
theorem len_tab : enL.length = 1024 ∧ vlL.length = 1024 := by decide +kernel
set_option maxRecDepth 100000 in
theorem un_tab : ∀ k, k < 12 → lw (252 + k) = nI (unL.getD k 0) ∧ unL.getD k 0 < 1024 := by decide +kernel
theorem fnd_fnc {f : Nat → Int32} {g : Nat → Nat} {x : Nat} (hx : x < 2 ^ 31) : ∀ (d k : Nat), (∀ j, k ≤ j → j < k + d → f j = nI (g j) ∧ g j < 2 ^ 31) → fnd f (nI x) d k = cd (fnc g x d k)
  | 0, _, _ => rfl
  | d + 1, k, h => by
    simp only [fnd, fnc]
    rw [(h k (by omega) (by omega)).1]
    by_cases hq : g k = x
    · rw [if_pos (by rw [hq]), if_pos hq]
      rfl
    · rw [if_neg (fun z => hq ((nI_eq (h k (by omega) (by omega)).2 hx).mp z)), if_neg hq]
      exact fnd_fnc hx d (k + 1) (fun j h1 h2 => h j (by omega) (by omega))
theorem ufn_ufc {w : Nat} (hw : w < 1024) (e : Bool) : ufn w e = cd (ufc w e) := by
  unfold ufn ufc
  have h : ∀ j, 0 ≤ j → j < 0 + 12 → (fun k => lw (252 + k)) j = nI ((fun k => unL.getD k 0) j) ∧ (fun k => unL.getD k 0) j < 2 ^ 31 := fun j _ h2 => ⟨(un_tab j (by omega)).1, by have := (un_tab j (by omega)).2; dsimp only; omega⟩
  cases e with
  | true =>
    rw [if_pos rfl, if_pos rfl, show (1023 : Int32) - nI w = nI (1023 - w) from pk_sub (a := 1023) (b := w) (by omega)]
    exact fnd_fnc (by omega) 12 0 h
  | false =>
    rw [if_neg (by decide), if_neg (by decide)]
    exact fnd_fnc (by omega) 12 0 h
/-- a word is EVEN, or none, or UNEVEN by LACK, or by EXCESS -/
theorem w_kinds {w : Nat} (hw : w < 1024) : (∃ i, i < 252 ∧ en w = nI i ∧ vl w = nI i ∧ ufn w true = -1 ∧ ufn w false = -1) ∨ (en w = -1 ∧ vl w = -1 ∧ ufn w true = -1 ∧ ufn w false = -1) ∨ (∃ k, k < 12 ∧ en w = -1 ∧ vl w = nI (252 + k) ∧ ufn w false = nI k ∧ ufn w true = -1 ∧ popc w = 6) ∨ (∃ k, k < 12 ∧ en w = -1 ∧ vl w = nI (252 + k) ∧ ufn w true = nI k ∧ ufn w false = -1 ∧ popc w = 4) := by
  have h := chkL_ok enL vlL 0 chk_tab w (by rw [len_tab.1]; exact hw) (by rw [len_tab.2]; exact hw)
  rw [Nat.zero_add] at h
  rw [ufn_ufc hw, ufn_ufc hw]
  unfold en vl
  generalize enL.getD w 0 = a at h ⊢
  generalize vlL.getD w 0 = b at h ⊢
  unfold chkw at h
  generalize ufc w false = u0 at h ⊢
  generalize ufc w true = u1 at h ⊢
  generalize popc w = p at h ⊢
  simp only [Bool.or_eq_true, Bool.and_eq_true, Nat.blt_eq, Nat.ble_eq, Nat.beq_eq] at h
  rcases h with ((h | h) | h) | h
  · obtain ⟨⟨⟨⟨h1, rfl⟩, h3⟩, rfl⟩, rfl⟩ := h
    refine Or.inl ⟨b - 1, by omega, ?_, ?_, rfl, rfl⟩ <;> simp only [cd, if_neg (show ¬ b = 0 by omega)]
  · obtain ⟨⟨⟨rfl, rfl⟩, rfl⟩, rfl⟩ := h
    exact Or.inr (Or.inl ⟨rfl, rfl, rfl, rfl⟩)
  · obtain ⟨⟨⟨⟨⟨rfl, h1⟩, rfl⟩, rfl⟩, rfl⟩, h2⟩ := h
    refine Or.inr (Or.inr (Or.inl ⟨u0 - 1, by omega, rfl, ?_, ?_, rfl, rfl⟩))
    · simp only [cd, if_neg (show ¬ 252 + u0 = 0 by omega)]
      congr 1
      omega
    · simp only [cd, if_neg (show ¬ u0 = 0 by omega)]
  · obtain ⟨⟨⟨⟨⟨rfl, rfl⟩, h1⟩, rfl⟩, rfl⟩, h2⟩ := h
    refine Or.inr (Or.inr (Or.inr ⟨u1 - 1, by omega, rfl, ?_, ?_, rfl, rfl⟩))
    · simp only [cd, if_neg (show ¬ 252 + u1 = 0 by omega)]
      congr 1
      omega
    · simp only [cd, if_neg (show ¬ u1 = 0 by omega)]
/-- the JDK's bitCount, of ten bits -/
def bcE (x : Int32) : Int32 :=
  let a := x - (us x 1 &&& 1431655765)
  let b := (a &&& 858993459) + (us a 2 &&& 858993459)
  let c := (b + us b 4) &&& 252645135
  let d := c + us c 8
  let e := d + us d 16
  e &&& 63
set_option maxRecDepth 100000 in
theorem bc_tab : ∀ w, w < 1024 → bcE (nI w) = nI (popc w) := by decide +kernel
set_option maxHeartbeats 4000000 in
set_option maxRecDepth 100000 in
theorem j_bitCount {M : Mem} {x : Int32} : Gv mJ6_bitCount_0f7a4 [.int x] M (some (.int (bcE x))) M := by
  refine con_of (lv := [some (.int x)]) (by decide) rfl (Nat.le_of_ble_eq_true rfl) (by simp [lvle]) ?_
  refine r_iload_n dJ6_bitCount_0f7a4_0 rfl rfl ?_
  refine r_iload_n dJ6_bitCount_0f7a4_1 rfl rfl ?_
  refine r_iconst 1 dJ6_bitCount_0f7a4_2 (by decide) ?_
  refine r_iushr dJ6_bitCount_0f7a4_3 ?_
  refine r_ldcw 1431655765 dJ6_bitCount_0f7a4_4 cnJ6_265 ?_
  refine r_iand dJ6_bitCount_0f7a4_7 ?_
  refine r_isub dJ6_bitCount_0f7a4_8 ?_
  refine r_istore_n0 dJ6_bitCount_0f7a4_9 rfl (Nat.le_of_ble_eq_true rfl) ?_
  refine r_iload_n dJ6_bitCount_0f7a4_10 rfl rfl ?_
  refine r_ldcw 858993459 dJ6_bitCount_0f7a4_11 cnJ6_266 ?_
  refine r_iand dJ6_bitCount_0f7a4_14 ?_
  refine r_iload_n dJ6_bitCount_0f7a4_15 rfl rfl ?_
  refine r_iconst 2 dJ6_bitCount_0f7a4_16 (by decide) ?_
  refine r_iushr dJ6_bitCount_0f7a4_17 ?_
  refine r_ldcw 858993459 dJ6_bitCount_0f7a4_18 cnJ6_266 ?_
  refine r_iand dJ6_bitCount_0f7a4_21 ?_
  refine r_iadd dJ6_bitCount_0f7a4_22 ?_
  refine r_istore_n0 dJ6_bitCount_0f7a4_23 rfl (Nat.le_of_ble_eq_true rfl) ?_
  refine r_iload_n dJ6_bitCount_0f7a4_24 rfl rfl ?_
  refine r_iload_n dJ6_bitCount_0f7a4_25 rfl rfl ?_
  refine r_iconst 4 dJ6_bitCount_0f7a4_26 (by decide) ?_
  refine r_iushr dJ6_bitCount_0f7a4_27 ?_
  refine r_iadd dJ6_bitCount_0f7a4_28 ?_
  refine r_ldcw 252645135 dJ6_bitCount_0f7a4_29 cnJ6_267 ?_
  refine r_iand dJ6_bitCount_0f7a4_32 ?_
  refine r_istore_n0 dJ6_bitCount_0f7a4_33 rfl (Nat.le_of_ble_eq_true rfl) ?_
  refine r_iload_n dJ6_bitCount_0f7a4_34 rfl rfl ?_
  refine r_iload_n dJ6_bitCount_0f7a4_35 rfl rfl ?_
  refine r_bipush 8 dJ6_bitCount_0f7a4_36 (by decide) ?_
  refine r_iushr dJ6_bitCount_0f7a4_38 ?_
  refine r_iadd dJ6_bitCount_0f7a4_39 ?_
  refine r_istore_n0 dJ6_bitCount_0f7a4_40 rfl (Nat.le_of_ble_eq_true rfl) ?_
  refine r_iload_n dJ6_bitCount_0f7a4_41 rfl rfl ?_
  refine r_iload_n dJ6_bitCount_0f7a4_42 rfl rfl ?_
  refine r_bipush 16 dJ6_bitCount_0f7a4_43 (by decide) ?_
  refine r_iushr dJ6_bitCount_0f7a4_45 ?_
  refine r_iadd dJ6_bitCount_0f7a4_46 ?_
  refine r_istore_n0 dJ6_bitCount_0f7a4_47 rfl (Nat.le_of_ble_eq_true rfl) ?_
  refine r_iload_n dJ6_bitCount_0f7a4_48 rfl rfl ?_
  refine r_bipush 63 dJ6_bitCount_0f7a4_49 (by decide) ?_
  refine r_iand dJ6_bitCount_0f7a4_51 ?_
  refine r_ireturn dJ6_bitCount_0f7a4_52 rfl (Nat.zero_le _) (Nat.zero_le _) ?_
  exact ⟨rfl, rfl⟩
set_option maxHeartbeats 4000000 in
set_option maxRecDepth 100000 in
theorem m_in_t {M : Mem} {x a b : Int32} (h1 : ¬ x < a) (h2 : ¬ b < x) : Gv mX6_in [.int x, .int a, .int b] M (some (.int 1)) M := by
  refine con_of (lv := [some (.int x), some (.int a), some (.int b)]) (by decide) rfl (Nat.le_of_ble_eq_true rfl) (by simp [lvle]) ?_
  refine r_iload_n dX6_in_0 rfl rfl ?_
  refine r_iload_n dX6_in_1 rfl rfl ?_
  refine r_icmp_lt 14 dX6_in_2 (by decide) (fun c_2 => absurd c_2 h1) (fun c_2 => ?_)
  refine r_iload_n dX6_in_5 rfl rfl ?_
  refine r_iload_n dX6_in_6 rfl rfl ?_
  refine r_icmp_gt 14 dX6_in_7 (by decide) (fun c_7 => absurd c_7 h2) (fun c_7 => ?_)
  refine r_iconst 1 dX6_in_10 (by decide) ?_
  refine r_goto 15 dX6_in_11 (by decide) ?_
  refine r_zreturn dX6_in_15 rfl (by decide) (Nat.zero_le _) (Nat.zero_le _) ?_
  exact ⟨rfl, rfl⟩
set_option maxHeartbeats 4000000 in
set_option maxRecDepth 100000 in
theorem m_in_f {M : Mem} {x a b : Int32} (h : x < a ∨ b < x) : Gv mX6_in [.int x, .int a, .int b] M (some (.int 0)) M := by
  refine con_of (lv := [some (.int x), some (.int a), some (.int b)]) (by decide) rfl (Nat.le_of_ble_eq_true rfl) (by simp [lvle]) ?_
  refine r_iload_n dX6_in_0 rfl rfl ?_
  refine r_iload_n dX6_in_1 rfl rfl ?_
  refine r_icmp_lt 14 dX6_in_2 (by decide) (fun c_2 => ?_) (fun c_2 => ?_)
  · refine r_iconst 0 dX6_in_14 (by decide) ?_
    refine r_zreturn dX6_in_15 rfl (by decide) (Nat.zero_le _) (Nat.zero_le _) ?_
    exact ⟨rfl, rfl⟩
  · refine r_iload_n dX6_in_5 rfl rfl ?_
    refine r_iload_n dX6_in_6 rfl rfl ?_
    refine r_icmp_gt 14 dX6_in_7 (by decide) (fun c_7 => ?_) (fun c_7 => absurd h (fun q => q.elim c_2 c_7))
    refine r_iconst 0 dX6_in_14 (by decide) ?_
    refine r_zreturn dX6_in_15 rfl (by decide) (Nat.zero_le _) (Nat.zero_le _) ?_
    exact ⟨rfl, rfl⟩
set_option maxHeartbeats 4000000 in
set_option maxRecDepth 100000 in
theorem m_isTag_t {M : Mem} {x : Int32} (h1 : ¬ x < 0) (h2 : ¬ 7 < x) : Gv mX6_isTag [.int x] M (some (.int 1)) M := by
  refine con_of (lv := [some (.int x)]) (by decide) rfl (Nat.le_of_ble_eq_true rfl) (by simp [lvle]) ?_
  refine r_iload_n dX6_isTag_0 rfl rfl ?_
  refine r_iconst 0 dX6_isTag_1 (by decide) ?_
  refine r_bipush 7 dX6_isTag_2 (by decide) ?_
  refine gS3 (Y := mX6_in) dX6_isTag_4 mlX6_81 ckX6_in skX6_in rfl (m_in_t h1 h2) ?_
  refine r_zreturn dX6_isTag_7 rfl (by decide) (Nat.zero_le _) (Nat.zero_le _) ?_
  exact ⟨rfl, rfl⟩
set_option maxHeartbeats 4000000 in
set_option maxRecDepth 100000 in
theorem m_isTag_f {M : Mem} {x : Int32} (h : x < 0 ∨ 7 < x) : Gv mX6_isTag [.int x] M (some (.int 0)) M := by
  refine con_of (lv := [some (.int x)]) (by decide) rfl (Nat.le_of_ble_eq_true rfl) (by simp [lvle]) ?_
  refine r_iload_n dX6_isTag_0 rfl rfl ?_
  refine r_iconst 0 dX6_isTag_1 (by decide) ?_
  refine r_bipush 7 dX6_isTag_2 (by decide) ?_
  refine gS3 (Y := mX6_in) dX6_isTag_4 mlX6_81 ckX6_in skX6_in rfl (m_in_f h) ?_
  refine r_zreturn dX6_isTag_7 rfl (by decide) (Nat.zero_le _) (Nat.zero_le _) ?_
  exact ⟨rfl, rfl⟩
set_option maxHeartbeats 4000000 in
set_option maxRecDepth 100000 in
theorem m_isEven_t {M : Mem} {x : Int32} (h : ¬ 252 ≤ x) : Gv mX6_isEven [.int x] M (some (.int 1)) M := by
  refine con_of (lv := [some (.int x)]) (by decide) rfl (Nat.le_of_ble_eq_true rfl) (by simp [lvle]) ?_
  refine r_iload_n dX6_isEven_0 rfl rfl ?_
  refine r_sipush 252 dX6_isEven_1 (by decide) ?_
  refine r_icmp_ge 11 dX6_isEven_4 (by decide) (fun c_4 => absurd c_4 h) (fun c_4 => ?_)
  refine r_iconst 1 dX6_isEven_7 (by decide) ?_
  refine r_goto 12 dX6_isEven_8 (by decide) ?_
  refine r_zreturn dX6_isEven_12 rfl (by decide) (Nat.zero_le _) (Nat.zero_le _) ?_
  exact ⟨rfl, rfl⟩
set_option maxHeartbeats 4000000 in
set_option maxRecDepth 100000 in
theorem m_isEven_f {M : Mem} {x : Int32} (h : 252 ≤ x) : Gv mX6_isEven [.int x] M (some (.int 0)) M := by
  refine con_of (lv := [some (.int x)]) (by decide) rfl (Nat.le_of_ble_eq_true rfl) (by simp [lvle]) ?_
  refine r_iload_n dX6_isEven_0 rfl rfl ?_
  refine r_sipush 252 dX6_isEven_1 (by decide) ?_
  refine r_icmp_ge 11 dX6_isEven_4 (by decide) (fun c_4 => ?_) (fun c_4 => absurd h c_4)
  refine r_iconst 0 dX6_isEven_11 (by decide) ?_
  refine r_zreturn dX6_isEven_12 rfl (by decide) (Nat.zero_le _) (Nat.zero_le _) ?_
  exact ⟨rfl, rfl⟩
set_option maxHeartbeats 4000000 in
set_option maxRecDepth 100000 in
theorem m_uneven_lp {M : Mem} {a b v : Int32} : ∀ (d k : Nat), k + d = 12 → WP mX6_unevenOf 17 [some (.ref 40), some (.int a), some (.int b), some (.int v), some (.int (nI k))] [] 0 0 (shp, rfs, M) (fun r1 h1 => r1 = some (.int (fnd (M 43) v d k)) ∧ h1 = (shp, rfs, M)) := by
  intro d
  induction d with
  | zero =>
    intro k hk
    have hk : k = 12 := by omega
    subst hk
    refine r_iload dX6_unevenOf_17 rfl ?_
    refine r_bipush 12 dX6_unevenOf_19 (by decide) ?_
    refine r_icmp_ge 44 dX6_unevenOf_21 (by decide) (fun c_21 => ?_) (fun c_21 => absurd (by decide) c_21)
    refine r_iconst (-1) dX6_unevenOf_44 (by decide) ?_
    refine r_ireturn dX6_unevenOf_45 rfl (Nat.zero_le _) (Nat.zero_le _) ?_
    exact ⟨rfl, rfl⟩
  | succ d ih =>
    intro k hk
    have hcl : (nI k).toNatClampNeg = k := nI_clamp (by omega)
    refine r_iload dX6_unevenOf_17 rfl ?_
    refine r_bipush 12 dX6_unevenOf_19 (by decide) ?_
    refine r_icmp_ge 44 dX6_unevenOf_21 (by decide) (fun c_21 => absurd c_21 (nI_ge (a := k) (b := 12) (by omega) (by decide))) (fun c_21 => ?_)
    refine r_aload_n dX6_unevenOf_24 rfl rfl ?_
    refine r_getR (N := 35) dX6_unevenOf_25 fwX6_16 (by first | rfl | assumption) (Nat.le_of_ble_eq_true rfl) rfl (by first | rfl | assumption) ?_
    refine r_iload dX6_unevenOf_28 rfl ?_
    refine r_iaload dX6_unevenOf_30 (by first | rfl | assumption) (by exact vp_in_nI (by omega) (by decide)) ?_
    refine r_iload_n dX6_unevenOf_31 rfl rfl ?_
    refine r_icmp_ne 38 dX6_unevenOf_32 (by decide) (fun c_32 => ?_) (fun c_32 => ?_)
    · refine r_iinc_4 (_ + 1) dX6_unevenOf_38 rfl (Nat.le_of_ble_eq_true rfl) rfl ?_
      refine r_goto 17 dX6_unevenOf_41 (by decide) ?_
      rw [nI_1, hcl] at *
      simp only [fnd, if_neg c_32]
      exact ih (k + 1) (by omega)
    · refine r_iload dX6_unevenOf_35 rfl ?_
      refine r_ireturn dX6_unevenOf_37 rfl (Nat.zero_le _) (Nat.zero_le _) ?_
      rw [hcl] at c_32
      simp only [fnd, if_pos c_32, and_self]
set_option maxHeartbeats 4000000 in
set_option maxRecDepth 100000 in
theorem m_unevenOf {M : Mem} (T : TabM M) {w : Nat} {e : Bool} : Gv mX6_unevenOf [.ref 40, .int (nI w), .int (eI e)] M (some (.int (ufn w e))) M := by
  have hc : ∀ v, fnd (M 43) v 12 0 = fnd (fun k => lw (252 + k)) v 12 0 := fun v => fnd_congr 12 0 (fun j _ h => T.2.2 j (by omega))
  have hl := fun v : Int32 => m_uneven_lp (M := M) (a := nI w) (b := eI e) (v := v) 12 0 rfl
  refine con_of (lv := [some (.ref 40), some (.int (nI w)), some (.int (eI e)), none, none]) (by decide) rfl (Nat.le_of_ble_eq_true rfl) (by simp [lvle]) ?_
  cases e with
  | true =>
    have hl := hl (1023 - nI w)
    rw [hc] at hl
    refine r_iload_n dX6_unevenOf_0 rfl rfl ?_
    refine r_if_eq 12 dX6_unevenOf_1 (by decide) (fun c_1 => absurd c_1 (by decide)) (fun c_1 => ?_)
    refine r_sipush 1023 dX6_unevenOf_4 (by decide) ?_
    refine r_iload_n dX6_unevenOf_7 rfl rfl ?_
    refine r_isub dX6_unevenOf_8 ?_
    refine r_goto 13 dX6_unevenOf_9 (by decide) ?_
    refine r_istore_n3 dX6_unevenOf_13 rfl (Nat.le_of_ble_eq_true rfl) ?_
    refine r_iconst 0 dX6_unevenOf_14 (by decide) ?_
    refine r_istore_4 dX6_unevenOf_15 rfl (Nat.le_of_ble_eq_true rfl) ?_
    exact hl
  | false =>
    have hl := hl (nI w)
    rw [hc] at hl
    refine r_iload_n dX6_unevenOf_0 rfl rfl ?_
    refine r_if_eq 12 dX6_unevenOf_1 (by decide) (fun c_1 => ?_) (fun c_1 => absurd rfl c_1)
    refine r_iload_n dX6_unevenOf_12 rfl rfl ?_
    refine r_istore_n3 dX6_unevenOf_13 rfl (Nat.le_of_ble_eq_true rfl) ?_
    refine r_iconst 0 dX6_unevenOf_14 (by decide) ?_
    refine r_istore_4 dX6_unevenOf_15 rfl (Nat.le_of_ble_eq_true rfl) ?_
    exact hl
set_option maxHeartbeats 4000000 in
set_option maxRecDepth 100000 in
theorem m_wordOf {M : Mem} (T : TabM M) {k : Nat} (hk : k < 264) {e : Bool} : Gv mX6_wordOf [.ref 40, .int (nI k), .int (eI e)] M (some (.int (wd k e))) M := by
  have hcl : (nI k).toNatClampNeg = k := nI_clamp (by omega)
  refine con_of (lv := [some (.ref 40), some (.int (nI k)), some (.int (eI e)), none]) (by decide) rfl (Nat.le_of_ble_eq_true rfl) (by simp [lvle]) ?_
  by_cases h : k < 252
  · refine r_iload_n dX6_wordOf_0 rfl rfl ?_
    refine gS1 (Y := mX6_isEven) dX6_wordOf_1 mlX6_77 ckX6_isEven skX6_isEven rfl (m_isEven_t (nI_ge (a := k) (b := 252) h (by decide))) ?_
    refine r_if_eq 14 dX6_wordOf_4 (by decide) (fun c_4 => absurd c_4 (by decide)) (fun c_4 => ?_)
    refine r_aload_n dX6_wordOf_7 rfl rfl ?_
    refine r_getR (N := 35) dX6_wordOf_8 fwX6_7 (by first | rfl | assumption) (Nat.le_of_ble_eq_true rfl) rfl (by first | rfl | assumption) ?_
    refine r_iload_n dX6_wordOf_11 rfl rfl ?_
    refine r_iaload dX6_wordOf_12 (by first | rfl | assumption) (by exact vp_in_nI h (by decide)) ?_
    refine r_ireturn dX6_wordOf_13 rfl (Nat.zero_le _) (Nat.zero_le _) ?_
    rw [hcl, T.1 k h]
    simp only [wd, if_pos h, and_self]
  · have hs : nI k - 252 = nI (k - 252) := pk_sub (a := k) (b := 252) (by omega)
    have hcl2 : (nI (k - 252)).toNatClampNeg = k - 252 := nI_clamp (by omega)
    have ht : M 43 (k - 252) = lw k := by rw [T.2.2 _ (by omega)]; congr 1; omega
    cases e with
    | true =>
      refine r_iload_n dX6_wordOf_0 rfl rfl ?_
      refine gS1 (Y := mX6_isEven) dX6_wordOf_1 mlX6_77 ckX6_isEven skX6_isEven rfl (m_isEven_f (nI_le (a := 252) (b := k) (by omega) (by omega))) ?_
      refine r_if_eq 14 dX6_wordOf_4 (by decide) (fun c_4 => ?_) (fun c_4 => absurd rfl c_4)
      refine r_aload_n dX6_wordOf_14 rfl rfl ?_
      refine r_getR (N := 35) dX6_wordOf_15 fwX6_16 (by first | rfl | assumption) (Nat.le_of_ble_eq_true rfl) rfl (by first | rfl | assumption) ?_
      refine r_iload_n dX6_wordOf_18 rfl rfl ?_
      refine r_sipush 252 dX6_wordOf_19 (by decide) ?_
      refine r_isub dX6_wordOf_22 ?_
      refine r_iaload dX6_wordOf_23 (by first | rfl | assumption) (by rw [hs]; exact vp_in_nI (by omega) (by decide)) ?_
      refine r_istore_n3 dX6_wordOf_24 rfl (Nat.le_of_ble_eq_true rfl) ?_
      refine r_iload_n dX6_wordOf_25 rfl rfl ?_
      refine r_if_eq 37 dX6_wordOf_26 (by decide) (fun c_26 => absurd c_26 (by decide)) (fun c_26 => ?_)
      refine r_sipush 1023 dX6_wordOf_29 (by decide) ?_
      refine r_iload_n dX6_wordOf_32 rfl rfl ?_
      refine r_isub dX6_wordOf_33 ?_
      refine r_goto 38 dX6_wordOf_34 (by decide) ?_
      refine r_ireturn dX6_wordOf_38 rfl (Nat.zero_le _) (Nat.zero_le _) ?_
      rw [hs, hcl2, ht]
      simp only [wd, if_neg h, if_true, and_self]
    | false =>
      refine r_iload_n dX6_wordOf_0 rfl rfl ?_
      refine gS1 (Y := mX6_isEven) dX6_wordOf_1 mlX6_77 ckX6_isEven skX6_isEven rfl (m_isEven_f (nI_le (a := 252) (b := k) (by omega) (by omega))) ?_
      refine r_if_eq 14 dX6_wordOf_4 (by decide) (fun c_4 => ?_) (fun c_4 => absurd rfl c_4)
      refine r_aload_n dX6_wordOf_14 rfl rfl ?_
      refine r_getR (N := 35) dX6_wordOf_15 fwX6_16 (by first | rfl | assumption) (Nat.le_of_ble_eq_true rfl) rfl (by first | rfl | assumption) ?_
      refine r_iload_n dX6_wordOf_18 rfl rfl ?_
      refine r_sipush 252 dX6_wordOf_19 (by decide) ?_
      refine r_isub dX6_wordOf_22 ?_
      refine r_iaload dX6_wordOf_23 (by first | rfl | assumption) (by rw [hs]; exact vp_in_nI (by omega) (by decide)) ?_
      refine r_istore_n3 dX6_wordOf_24 rfl (Nat.le_of_ble_eq_true rfl) ?_
      refine r_iload_n dX6_wordOf_25 rfl rfl ?_
      refine r_if_eq 37 dX6_wordOf_26 (by decide) (fun c_26 => ?_) (fun c_26 => absurd rfl c_26)
      refine r_iload_n dX6_wordOf_37 rfl rfl ?_
      refine r_ireturn dX6_wordOf_38 rfl (Nat.zero_le _) (Nat.zero_le _) ?_
      rw [hs, hcl2, ht]
      simp [wd, if_neg h]
set_option maxHeartbeats 4000000 in
set_option maxRecDepth 100000 in
theorem m_valueOf {M : Mem} (T : TabM M) {w : Nat} (hw : w < 1024) {e : Bool} : Gv mX6_valueOf [.ref 40, .int (nI w), .int (eI e)] M (some (.int (mvf w e))) M := by
  have hcl : (nI w).toNatClampNeg = w := nI_clamp (by omega)
  have ht := T.2.1 w hw
  refine con_of (lv := [some (.ref 40), some (.int (nI w)), some (.int (eI e)), none]) (by decide) rfl (Nat.le_of_ble_eq_true rfl) (by simp [lvle]) ?_
  refine r_aload_n dX6_valueOf_0 rfl rfl ?_
  refine r_getR (N := 35) dX6_valueOf_1 fwX6_13 (by first | rfl | assumption) (Nat.le_of_ble_eq_true rfl) rfl (by first | rfl | assumption) ?_
  refine r_iload_n dX6_valueOf_4 rfl rfl ?_
  refine r_iaload dX6_valueOf_5 (by first | rfl | assumption) (by exact vp_in_nI hw (by decide)) ?_
  refine r_iconst (-1) dX6_valueOf_6 (by decide) ?_
  refine r_icmp_eq 17 dX6_valueOf_7 (by decide) (fun c_7 => ?_) (fun c_7 => ?_)
  · refine r_aload_n dX6_valueOf_17 rfl rfl ?_
    refine r_iload_n dX6_valueOf_18 rfl rfl ?_
    refine r_iload_n dX6_valueOf_19 rfl rfl ?_
    refine gV2 (Y := mX6_unevenOf) (ci := 6) (N := 35) dX6_valueOf_20 mlX6_89 vkX6_unevenOf (by first | rfl | assumption) ⟨by decide, rfl⟩ rfl (m_unevenOf T) ?_
    refine r_istore_n3 dX6_valueOf_23 rfl (Nat.le_of_ble_eq_true rfl) ?_
    refine r_iload_n dX6_valueOf_24 rfl rfl ?_
    refine r_iconst (-1) dX6_valueOf_25 (by decide) ?_
    refine r_icmp_ne 33 dX6_valueOf_26 (by decide) (fun c_26 => ?_) (fun c_26 => ?_)
    · refine r_sipush 252 dX6_valueOf_33 (by decide) ?_
      refine r_iload_n dX6_valueOf_36 rfl rfl ?_
      refine r_iadd dX6_valueOf_37 ?_
      refine r_ireturn dX6_valueOf_38 rfl (Nat.zero_le _) (Nat.zero_le _) ?_
      rw [hcl, ht] at *
      first | (simp only [mvf, if_neg c_7, and_self]; done) | (simp only [mvf, if_pos c_7, if_neg c_26, and_self]; done) | (simp only [mvf, if_pos c_7, if_pos c_26, and_self]; done)
    · refine r_iconst (-1) dX6_valueOf_29 (by decide) ?_
      refine r_goto 38 dX6_valueOf_30 (by decide) ?_
      refine r_ireturn dX6_valueOf_38 rfl (Nat.zero_le _) (Nat.zero_le _) ?_
      rw [hcl, ht] at *
      first | (simp only [mvf, if_neg c_7, and_self]; done) | (simp only [mvf, if_pos c_7, if_neg c_26, and_self]; done) | (simp only [mvf, if_pos c_7, if_pos c_26, and_self]; done)
  · refine r_aload_n dX6_valueOf_10 rfl rfl ?_
    refine r_getR (N := 35) dX6_valueOf_11 fwX6_13 (by first | rfl | assumption) (Nat.le_of_ble_eq_true rfl) rfl (by first | rfl | assumption) ?_
    refine r_iload_n dX6_valueOf_14 rfl rfl ?_
    refine r_iaload dX6_valueOf_15 (by first | rfl | assumption) (by exact vp_in_nI hw (by decide)) ?_
    refine r_ireturn dX6_valueOf_16 rfl (Nat.zero_le _) (Nat.zero_le _) ?_
    rw [hcl, ht] at *
    first | (simp only [mvf, if_neg c_7, and_self]; done) | (simp only [mvf, if_pos c_7, if_neg c_26, and_self]; done) | (simp only [mvf, if_pos c_7, if_pos c_26, and_self]; done)
