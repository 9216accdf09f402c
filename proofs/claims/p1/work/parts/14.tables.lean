theorem mem_ix {big ws : List Cond} (ps : List Nat) (hp : ws = ps.filterMap (fun i => big[i]?)) : ∀ w ∈ ws, w ∈ big := by
  intro w hw
  rw [hp] at hw
  obtain ⟨i, -, hi⟩ := List.mem_filterMap.mp hw
  exact List.mem_of_getElem? hi
theorem mem_cd {big rest : List Cond} {c : Cond} (h1 : c ∈ big) (h2 : ∀ w ∈ rest, w ∈ big) : ∀ w ∈ c :: rest, w ∈ big := fun w h => (List.mem_cons.mp h).elim (fun e => e ▸ h1) (h2 w)
theorem mem_ap {big a b : List Cond} (h1 : ∀ w ∈ a, w ∈ big) (h2 : ∀ w ∈ b, w ∈ big) : ∀ w ∈ a ++ b, w ∈ big := fun w h => (List.mem_append.mp h).elim (h1 w) (h2 w)
theorem mem_nl {big : List Cond} : ∀ w ∈ ([] : List Cond), w ∈ big := fun _ h => absurd h List.not_mem_nil
set_option maxRecDepth 20000 in
theorem tb_wsX00 : ∀ w ∈ wsX00, w ∈ lw_tbl := mem_ix [217, 219, 221] (by decide +kernel)
set_option maxRecDepth 20000 in
theorem tb_wsX10 : ∀ w ∈ wsX10, w ∈ lw_tbl := mem_ix [350, 352, 354, 356, 358, 360] (by decide +kernel)
set_option maxRecDepth 20000 in
theorem tb_wsX100 : ∀ w ∈ wsX100, w ∈ lw_tbl := mem_ix [327, 329, 331, 333, 335] (by decide +kernel)
set_option maxRecDepth 20000 in
theorem tb_wsX110 : ∀ w ∈ wsX110, w ∈ lw_tbl := mem_ix [500, 502, 504, 506, 508, 510, 512, 514, 516, 518, 520, 522, 524, 526, 528, 530, 532] (by decide +kernel)
set_option maxRecDepth 20000 in
theorem tb_wsX120 : ∀ w ∈ wsX120, w ∈ lw_tbl := mem_ix [1634, 1636, 1638, 1640, 1642, 1644, 1646, 1648, 1650, 1652, 1654, 1656, 1658, 1660, 1662, 1664, 1666, 1668, 1670, 1672, 1674, 1676, 1678, 1680, 1682, 1684, 1686, 1688, 1690, 1692, 1694, 1696, 1698, 1700, 1702, 1704, 1706, 1708, 1710, 1712, 1714, 1716, 1718, 1720, 1722, 1724, 1726, 1728, 1730, 1732, 1734, 1736, 1738, 1740, 1742, 1744, 1746, 1748, 1750, 1752, 1754, 1756, 1758, 1760, 1762, 1764, 1766, 1768, 1770, 1772, 1774, 1776, 1778, 1780, 1782, 1784, 1786, 1788, 1790, 1792, 1794, 1796, 1798, 1800, 1802, 1804, 1806, 1808] (by decide +kernel)
set_option maxRecDepth 20000 in
theorem tb_wsX20 : ∀ w ∈ wsX20, w ∈ lw_tbl := mem_ix [456, 458, 460, 462, 464, 466, 468, 470, 472, 474, 476, 478, 480] (by decide +kernel)
set_option maxRecDepth 20000 in
theorem tb_wsX30 : ∀ w ∈ wsX30, w ∈ lw_tbl := mem_ix [178, 180, 182] (by decide +kernel)
set_option maxRecDepth 20000 in
theorem tb_wsX40 : ∀ w ∈ wsX40, w ∈ lw_tbl := mem_ix [283, 285, 287, 289, 291, 293, 295, 297] (by decide +kernel)
set_option maxRecDepth 20000 in
theorem tb_wsX50 : ∀ w ∈ wsX50, w ∈ lw_tbl := mem_ix [374, 376, 378, 380, 382] (by decide +kernel)
set_option maxRecDepth 20000 in
theorem tb_wsX60 : ∀ w ∈ wsX60, w ∈ lw_tbl := mem_ix [244, 246, 248, 250, 252, 254, 256, 258, 260, 262, 264, 266] (by decide +kernel)
set_option maxRecDepth 20000 in
theorem tb_wsX70 : ∀ w ∈ wsX70, w ∈ lw_tbl := mem_ix [309, 311, 313] (by decide +kernel)
set_option maxRecDepth 20000 in
theorem tb_wsX80 : ∀ w ∈ wsX80, w ∈ lw_tbl := mem_ix [406, 408, 410, 412, 414, 416, 418, 420, 422, 424, 426, 428, 430, 432, 434] (by decide +kernel)
set_option maxRecDepth 20000 in
theorem tb_wsX90 : ∀ w ∈ wsX90, w ∈ lw_tbl := mem_ix [196, 198, 200, 202] (by decide +kernel)
set_option maxRecDepth 20000 in
theorem tb_X3_init : ∀ w ∈ wd_X3_init, w ∈ lw_tbl := mem_cd (List.mem_of_getElem? (i := 173) (by decide +kernel)) (mem_ap (mem_ix [174, 167, 168, 185, 175, 176, 177] (by decide +kernel)) (mem_ap tb_wsX30 mem_nl))
set_option maxRecDepth 20000 in
theorem tb_X9_init : ∀ w ∈ wd_X9_init, w ∈ lw_tbl := mem_cd (List.mem_of_getElem? (i := 190) (by decide +kernel)) (mem_ap (mem_ix [191, 167, 168, 185, 192, 193, 194, 195] (by decide +kernel)) (mem_ap tb_wsX90 mem_nl))
set_option maxRecDepth 20000 in
theorem tb_J7_fill_53178 : ∀ w ∈ wd_J7_fill_53178, w ∈ lw_tbl := mem_cd (List.mem_of_getElem? (i := 213) (by decide +kernel)) (mem_ap (mem_ix [] (by decide +kernel)) mem_nl)
set_option maxRecDepth 20000 in
theorem tb_X0_init : ∀ w ∈ wd_X0_init, w ∈ lw_tbl := mem_cd (List.mem_of_getElem? (i := 209) (by decide +kernel)) (mem_ap (mem_ix [210, 167, 168, 185, 214, 215, 224, 216, 211, 212, 148] (by decide +kernel)) (mem_ap tb_J7_fill_53178 (mem_ap tb_wsX00 mem_nl)))
set_option maxRecDepth 20000 in
theorem tb_X6_init : ∀ w ∈ wd_X6_init, w ∈ lw_tbl := mem_cd (List.mem_of_getElem? (i := 229) (by decide +kernel)) (mem_ap (mem_ix [230, 167, 168, 185, 232, 233, 234, 235, 236, 237, 238, 239, 240, 241, 242, 231, 212, 148, 243] (by decide +kernel)) (mem_ap tb_J7_fill_53178 (mem_ap tb_wsX60 mem_nl)))
set_option maxRecDepth 20000 in
theorem tb_X4_init : ∀ w ∈ wd_X4_init, w ∈ lw_tbl := mem_cd (List.mem_of_getElem? (i := 273) (by decide +kernel)) (mem_ap (mem_ix [274, 167, 168, 185, 277, 275, 276, 282] (by decide +kernel)) (mem_ap tb_wsX40 mem_nl))
set_option maxRecDepth 20000 in
theorem tb_X7_init : ∀ w ∈ wd_X7_init, w ∈ lw_tbl := mem_cd (List.mem_of_getElem? (i := 304) (by decide +kernel)) (mem_ap (mem_ix [305, 167, 168, 185, 307, 308, 306] (by decide +kernel)) (mem_ap tb_wsX70 mem_nl))
set_option maxRecDepth 20000 in
theorem tb_X10_init : ∀ w ∈ wd_X10_init, w ∈ lw_tbl := mem_cd (List.mem_of_getElem? (i := 320) (by decide +kernel)) (mem_ap (mem_ix [321, 167, 168, 185, 323, 324, 322] (by decide +kernel)) (mem_ap tb_wsX100 mem_nl))
set_option maxRecDepth 20000 in
theorem tb_X1_init : ∀ w ∈ wd_X1_init, w ∈ lw_tbl := mem_cd (List.mem_of_getElem? (i := 342) (by decide +kernel)) (mem_ap (mem_ix [343, 167, 168, 185, 345, 346, 347, 348, 344] (by decide +kernel)) (mem_ap tb_wsX10 mem_nl))
set_option maxRecDepth 20000 in
theorem tb_X5_init : ∀ w ∈ wd_X5_init, w ∈ lw_tbl := mem_cd (List.mem_of_getElem? (i := 367) (by decide +kernel)) (mem_ap (mem_ix [368, 167, 168, 185, 369, 370, 371, 372, 373] (by decide +kernel)) (mem_ap tb_wsX50 mem_nl))
set_option maxRecDepth 20000 in
theorem tb_X8_init : ∀ w ∈ wd_X8_init, w ∈ lw_tbl := mem_cd (List.mem_of_getElem? (i := 389) (by decide +kernel)) (mem_ap (mem_ix [390, 167, 168, 224, 395, 185, 396, 397, 398, 399, 400, 401, 402, 403, 391, 392, 393, 394] (by decide +kernel)) (mem_ap tb_wsX80 mem_nl))
set_option maxRecDepth 20000 in
theorem tb_X2_init : ∀ w ∈ wd_X2_init, w ∈ lw_tbl := mem_cd (List.mem_of_getElem? (i := 441) (by decide +kernel)) (mem_ap (mem_ix [442, 167, 168, 185, 444, 445, 446, 447, 448, 224, 449, 450, 451, 452, 443] (by decide +kernel)) (mem_ap tb_wsX20 mem_nl))
set_option maxRecDepth 20000 in
theorem tb_X11_init : ∀ w ∈ wd_X11_init, w ∈ lw_tbl := mem_cd (List.mem_of_getElem? (i := 165) (by decide +kernel)) (mem_ap (mem_ix [166, 167, 168, 169, 170, 145, 171, 172, 483, 484, 485, 186, 187, 146, 188, 189, 486, 487, 205, 206, 147, 207, 208, 488, 225, 226, 149, 227, 228, 489, 185, 490, 269, 270, 150, 271, 272, 491, 300, 301, 151, 302, 303, 492, 316, 317, 152, 318, 319, 493, 338, 339, 153, 340, 341, 494, 363, 364, 154, 365, 366, 495, 385, 386, 155, 387, 388, 496, 437, 438, 156, 439, 440, 497, 498, 499] (by decide +kernel)) (mem_ap tb_X3_init (mem_ap tb_X9_init (mem_ap tb_X0_init (mem_ap tb_X6_init (mem_ap tb_X4_init (mem_ap tb_X7_init (mem_ap tb_X10_init (mem_ap tb_X1_init (mem_ap tb_X5_init (mem_ap tb_X8_init (mem_ap tb_X2_init (mem_ap tb_wsX00 (mem_ap tb_wsX10 (mem_ap tb_wsX100 (mem_ap tb_wsX110 (mem_ap tb_wsX20 (mem_ap tb_wsX30 (mem_ap tb_wsX40 (mem_ap tb_wsX50 (mem_ap tb_wsX60 (mem_ap tb_wsX70 (mem_ap tb_wsX80 (mem_ap tb_wsX90 mem_nl))))))))))))))))))))))))
set_option maxRecDepth 20000 in
theorem tb_X12_init : ∀ w ∈ wd_X12_init, w ∈ lw_tbl := mem_cd (List.mem_of_getElem? (i := 1538) (by decide +kernel)) (mem_ap (mem_ix [1539, 167, 168, 1546, 185, 1547, 1548, 1550, 1551, 1552, 1556, 1557, 1559, 1560, 1562, 1563, 1564, 1565, 1567, 1568, 1569, 1570, 1571, 1572, 1540, 1811, 1573, 1575, 1577, 1585, 1586, 1587, 1590, 1591, 1592, 1593, 1594, 1595, 1812, 1596, 1597, 1541, 224, 1598, 1599, 1543, 1600, 1601, 1602, 1545, 1603, 1604, 1605, 1606, 1608, 1609, 1610, 1611, 1612, 1614, 1616, 1620, 1621, 1622, 1623, 1624, 1625, 1626, 1627, 1629, 1630, 1631, 1632, 1633] (by decide +kernel)) (mem_ap tb_wsX120 mem_nl))
set_option maxRecDepth 20000 in
theorem tb_X3_size : ∀ w ∈ wd_X3_size, w ∈ lw_tbl := mem_cd (List.mem_of_getElem? (i := 542) (by decide +kernel)) (mem_ap (mem_ix [177] (by decide +kernel)) (mem_ap tb_wsX30 mem_nl))
set_option maxRecDepth 20000 in
theorem tb_X3_reset : ∀ w ∈ wd_X3_reset, w ∈ lw_tbl := mem_cd (List.mem_of_getElem? (i := 546) (by decide +kernel)) (mem_ap (mem_ix [177, 175, 547, 212, 148, 176] (by decide +kernel)) (mem_ap tb_J7_fill_53178 (mem_ap tb_wsX30 mem_nl)))
set_option maxRecDepth 20000 in
theorem tb_X11_setWorlds : ∀ w ∈ wd_X11_setWorlds, w ∈ lw_tbl := mem_cd (List.mem_of_getElem? (i := 538) (by decide +kernel)) (mem_ap (mem_ix [483, 539, 540, 541, 145, 543, 544, 545] (by decide +kernel)) (mem_ap tb_X3_size (mem_ap tb_X3_reset (mem_ap tb_wsX110 mem_nl))))
set_option maxRecDepth 20000 in
theorem tb_X3_has : ∀ w ∈ wd_X3_has, w ∈ lw_tbl := mem_cd (List.mem_of_getElem? (i := 555) (by decide +kernel)) (mem_ap (mem_ix [177] (by decide +kernel)) (mem_ap tb_wsX30 mem_nl))
set_option maxRecDepth 20000 in
theorem tb_X11_at : ∀ w ∈ wd_X11_at, w ∈ lw_tbl := mem_cd (List.mem_of_getElem? (i := 562) (by decide +kernel)) (mem_ap (mem_ix [] (by decide +kernel)) mem_nl)
set_option maxRecDepth 20000 in
theorem tb_X3_truths : ∀ w ∈ wd_X3_truths, w ∈ lw_tbl := mem_cd (List.mem_of_getElem? (i := 559) (by decide +kernel)) (mem_ap (mem_ix [175, 144, 561] (by decide +kernel)) (mem_ap tb_X11_at (mem_ap tb_wsX30 mem_nl)))
set_option maxRecDepth 20000 in
theorem tb_X11_put : ∀ w ∈ wd_X11_put, w ∈ lw_tbl := mem_cd (List.mem_of_getElem? (i := 569) (by decide +kernel)) (mem_ap (mem_ix [] (by decide +kernel)) mem_nl)
set_option maxRecDepth 20000 in
theorem tb_X3_putTruth : ∀ w ∈ wd_X3_putTruth, w ∈ lw_tbl := mem_cd (List.mem_of_getElem? (i := 566) (by decide +kernel)) (mem_ap (mem_ix [175, 144, 561, 568] (by decide +kernel)) (mem_ap tb_X11_at (mem_ap tb_X11_put (mem_ap tb_wsX30 mem_nl))))
set_option maxRecDepth 20000 in
theorem tb_X11_setLetter : ∀ w ∈ wd_X11_setLetter, w ∈ lw_tbl := mem_cd (List.mem_of_getElem? (i := 551) (by decide +kernel)) (mem_ap (mem_ix [483, 552, 553, 554, 145, 556, 557, 558, 563, 564, 565] (by decide +kernel)) (mem_ap tb_X3_has (mem_ap tb_X3_truths (mem_ap tb_X3_putTruth (mem_ap tb_wsX110 mem_nl)))))
set_option maxRecDepth 20000 in
theorem tb_X11_isProgram : ∀ w ∈ wd_X11_isProgram, w ∈ lw_tbl := mem_cd (List.mem_of_getElem? (i := 576) (by decide +kernel)) (mem_ap (mem_ix [] (by decide +kernel)) mem_nl)
set_option maxRecDepth 20000 in
theorem tb_X3_moves : ∀ w ∈ wd_X3_moves, w ∈ lw_tbl := mem_cd (List.mem_of_getElem? (i := 580) (by decide +kernel)) (mem_ap (mem_ix [176, 144, 561] (by decide +kernel)) (mem_ap tb_X11_at (mem_ap tb_wsX30 mem_nl)))
set_option maxRecDepth 20000 in
theorem tb_X3_putMove : ∀ w ∈ wd_X3_putMove, w ∈ lw_tbl := mem_cd (List.mem_of_getElem? (i := 584) (by decide +kernel)) (mem_ap (mem_ix [176, 144, 561, 568] (by decide +kernel)) (mem_ap tb_X11_at (mem_ap tb_X11_put (mem_ap tb_wsX30 mem_nl))))
set_option maxRecDepth 20000 in
theorem tb_X11_setTransition : ∀ w ∈ wd_X11_setTransition, w ∈ lw_tbl := mem_cd (List.mem_of_getElem? (i := 573) (by decide +kernel)) (mem_ap (mem_ix [574, 575, 144, 483, 552, 553, 554, 145, 577, 578, 579, 581, 582, 583] (by decide +kernel)) (mem_ap tb_X11_isProgram (mem_ap tb_X3_has (mem_ap tb_X3_moves (mem_ap tb_X3_putMove (mem_ap tb_wsX110 mem_nl))))))
set_option maxRecDepth 20000 in
theorem tb_X3_lettersAt0 : ∀ w ∈ wd_X3_lettersAt0, w ∈ lw_tbl := mem_cd (List.mem_of_getElem? (i := 592) (by decide +kernel)) (mem_ap (mem_ix [175, 144, 561] (by decide +kernel)) (mem_ap tb_X11_at (mem_ap tb_wsX30 mem_nl)))
set_option maxRecDepth 20000 in
theorem tb_X11_letters : ∀ w ∈ wd_X11_letters, w ∈ lw_tbl := mem_cd (List.mem_of_getElem? (i := 588) (by decide +kernel)) (mem_ap (mem_ix [483, 552, 553, 554, 145, 589, 590, 591] (by decide +kernel)) (mem_ap tb_X3_has (mem_ap tb_X3_lettersAt0 (mem_ap tb_wsX110 mem_nl))))
set_option maxRecDepth 20000 in
theorem tb_X11_successors : ∀ w ∈ wd_X11_successors, w ∈ lw_tbl := mem_cd (List.mem_of_getElem? (i := 596) (by decide +kernel)) (mem_ap (mem_ix [574, 575, 144, 483, 552, 553, 554, 145, 577, 578, 579] (by decide +kernel)) (mem_ap tb_X11_isProgram (mem_ap tb_X3_has (mem_ap tb_X3_moves (mem_ap tb_wsX110 mem_nl)))))
set_option maxRecDepth 20000 in
theorem tb_X11_spaceBits : ∀ w ∈ wd_X11_spaceBits, w ∈ lw_tbl := mem_cd (List.mem_of_getElem? (i := 603) (by decide +kernel)) (mem_ap (mem_ix [] (by decide +kernel)) mem_nl)
set_option maxRecDepth 20000 in
theorem tb_X3_all : ∀ w ∈ wd_X3_all, w ∈ lw_tbl := mem_cd (List.mem_of_getElem? (i := 613) (by decide +kernel)) (mem_ap (mem_ix [177] (by decide +kernel)) (mem_ap tb_wsX30 mem_nl))
set_option maxRecDepth 20000 in
theorem tb_X3_decode : ∀ w ∈ wd_X3_decode, w ∈ lw_tbl := mem_cd (List.mem_of_getElem? (i := 607) (by decide +kernel)) (mem_ap (mem_ix [608, 544, 545, 145, 176, 610, 611, 612, 144, 568, 609, 564, 565] (by decide +kernel)) (mem_ap tb_X3_reset (mem_ap tb_X3_all (mem_ap tb_X11_put (mem_ap tb_X3_putTruth (mem_ap tb_wsX30 mem_nl))))))
set_option maxRecDepth 20000 in
theorem tb_X11_loadModel : ∀ w ∈ wd_X11_loadModel, w ∈ lw_tbl := mem_cd (List.mem_of_getElem? (i := 600) (by decide +kernel)) (mem_ap (mem_ix [601, 602, 144, 483, 604, 605, 606, 145] (by decide +kernel)) (mem_ap tb_X11_spaceBits (mem_ap tb_X3_decode (mem_ap tb_wsX110 mem_nl))))
set_option maxRecDepth 20000 in
theorem tb_X5_begin : ∀ w ∈ wd_X5_begin, w ∈ lw_tbl := mem_cd (List.mem_of_getElem? (i := 626) (by decide +kernel)) (mem_ap (mem_ix [372, 373, 369, 627, 212, 148] (by decide +kernel)) (mem_ap tb_J7_fill_53178 (mem_ap tb_wsX50 mem_nl)))
set_option maxRecDepth 20000 in
theorem tb_X5_split1 : ∀ w ∈ wd_X5_split1, w ∈ lw_tbl := mem_cd (List.mem_of_getElem? (i := 632) (by decide +kernel)) (mem_ap (mem_ix [369, 370, 633, 635, 634, 158, 373, 372, 144, 568, 638, 639, 159, 640] (by decide +kernel)) (mem_ap tb_X11_put (mem_ap tb_wsX50 mem_nl)))
set_option maxRecDepth 20000 in
theorem tb_X5_classOf : ∀ w ∈ wd_X5_classOf, w ∈ lw_tbl := mem_cd (List.mem_of_getElem? (i := 648) (by decide +kernel)) (mem_ap (mem_ix [369, 144, 561] (by decide +kernel)) (mem_ap tb_X11_at (mem_ap tb_wsX50 mem_nl)))
set_option maxRecDepth 20000 in
theorem tb_X5_sources1 : ∀ w ∈ wd_X5_sources1, w ∈ lw_tbl := mem_cd (List.mem_of_getElem? (i := 652) (by decide +kernel)) (mem_ap (mem_ix [372, 653, 578, 579, 145] (by decide +kernel)) (mem_ap tb_X3_moves (mem_ap tb_wsX50 mem_nl)))
set_option maxRecDepth 20000 in
theorem tb_X5_refine1 : ∀ w ∈ wd_X5_refine1, w ∈ lw_tbl := mem_cd (List.mem_of_getElem? (i := 644) (by decide +kernel)) (mem_ap (mem_ix [373, 371, 627, 212, 148, 372, 645, 646, 647, 154, 144, 561, 568, 649, 651, 1, 629, 630, 631] (by decide +kernel)) (mem_ap tb_J7_fill_53178 (mem_ap tb_X5_classOf (mem_ap tb_X11_at (mem_ap tb_X11_put (mem_ap tb_X5_sources1 (mem_ap tb_X5_split1 (mem_ap tb_wsX50 mem_nl))))))))
set_option maxRecDepth 20000 in
theorem tb_X5_bisimulate1 : ∀ w ∈ wd_X5_bisimulate1, w ∈ lw_tbl := mem_cd (List.mem_of_getElem? (i := 621) (by decide +kernel)) (mem_ap (mem_ix [622, 540, 541, 145, 623, 624, 625, 154, 628, 557, 558, 629, 630, 631, 373, 641, 643, 0] (by decide +kernel)) (mem_ap tb_X3_size (mem_ap tb_X5_begin (mem_ap tb_X3_truths (mem_ap tb_X5_split1 (mem_ap tb_X5_refine1 (mem_ap tb_wsX50 mem_nl)))))))
set_option maxRecDepth 20000 in
theorem tb_X5_size : ∀ w ∈ wd_X5_size, w ∈ lw_tbl := mem_cd (List.mem_of_getElem? (i := 657) (by decide +kernel)) (mem_ap (mem_ix [373] (by decide +kernel)) (mem_ap tb_wsX50 mem_nl))
set_option maxRecDepth 20000 in
theorem tb_X11_bisimulationClasses : ∀ w ∈ wd_X11_bisimulationClasses, w ∈ lw_tbl := mem_cd (List.mem_of_getElem? (i := 617) (by decide +kernel)) (mem_ap (mem_ix [495, 483, 618, 619, 620, 154, 654, 655, 656] (by decide +kernel)) (mem_ap tb_X5_bisimulate1 (mem_ap tb_X5_size (mem_ap tb_wsX110 mem_nl))))
set_option maxRecDepth 20000 in
theorem tb_X11_bisimulationClass : ∀ w ∈ wd_X11_bisimulationClass, w ∈ lw_tbl := mem_cd (List.mem_of_getElem? (i := 661) (by decide +kernel)) (mem_ap (mem_ix [483, 552, 553, 554, 145, 495, 618, 619, 620, 154, 662, 646, 647] (by decide +kernel)) (mem_ap tb_X3_has (mem_ap tb_X5_bisimulate1 (mem_ap tb_X5_classOf (mem_ap tb_wsX110 mem_nl)))))
set_option maxRecDepth 20000 in
theorem tb_X11_appendChar : ∀ w ∈ wd_X11_appendChar, w ∈ lw_tbl := mem_cd (List.mem_of_getElem? (i := 666) (by decide +kernel)) (mem_ap (mem_ix [498, 490, 667, 568, 144] (by decide +kernel)) (mem_ap tb_X11_put (mem_ap tb_wsX110 mem_nl)))
set_option maxRecDepth 20000 in
theorem tb_X9_isFull0 : ∀ w ∈ wd_X9_isFull0, w ∈ lw_tbl := mem_cd (List.mem_of_getElem? (i := 675) (by decide +kernel)) (mem_ap (mem_ix [195] (by decide +kernel)) (mem_ap tb_wsX90 mem_nl))
set_option maxRecDepth 20000 in
theorem tb_X6_clear : ∀ w ∈ wd_X6_clear, w ∈ lw_tbl := mem_cd (List.mem_of_getElem? (i := 679) (by decide +kernel)) (mem_ap (mem_ix [239, 231, 212, 148, 243] (by decide +kernel)) (mem_ap tb_J7_fill_53178 (mem_ap tb_wsX60 mem_nl)))
set_option maxRecDepth 20000 in
theorem tb_X4_peekA : ∀ w ∈ wd_X4_peekA, w ∈ lw_tbl := mem_cd (List.mem_of_getElem? (i := 703) (by decide +kernel)) (mem_ap (mem_ix [282, 279, 278] (by decide +kernel)) (mem_ap tb_wsX40 mem_nl))
set_option maxRecDepth 20000 in
theorem tb_X4_failA : ∀ w ∈ wd_X4_failA, w ∈ lw_tbl := mem_cd (List.mem_of_getElem? (i := 731) (by decide +kernel)) (mem_ap (mem_ix [282, 279] (by decide +kernel)) (mem_ap tb_wsX40 mem_nl))
set_option maxRecDepth 20000 in
theorem tb_X4_unaryA : ∀ w ∈ wd_X4_unaryA, w ∈ lw_tbl := mem_cd (List.mem_of_getElem? (i := 699) (by decide +kernel)) (mem_ap (mem_ix [700, 702, 6, 150, 728, 730, 8] (by decide +kernel)) (mem_ap tb_X4_peekA (mem_ap tb_X4_failA mem_nl)))
set_option maxRecDepth 20000 in
theorem tb_X4_peekB : ∀ w ∈ wd_X4_peekB, w ∈ lw_tbl := mem_cd (List.mem_of_getElem? (i := 703) (by decide +kernel)) (mem_ap (mem_ix [282] (by decide +kernel)) (mem_ap tb_wsX40 mem_nl))
set_option maxRecDepth 20000 in
theorem tb_X4_skipB : ∀ w ∈ wd_X4_skipB, w ∈ lw_tbl := mem_cd (List.mem_of_getElem? (i := 747) (by decide +kernel)) (mem_ap (mem_ix [700, 702, 6, 150] (by decide +kernel)) (mem_ap tb_X4_peekB mem_nl))
set_option maxRecDepth 20000 in
theorem tb_X4_conjunctionA : ∀ w ∈ wd_X4_conjunctionA, w ∈ lw_tbl := mem_cd (List.mem_of_getElem? (i := 695) (by decide +kernel)) (mem_ap (mem_ix [696, 698, 5, 150, 744, 746, 11] (by decide +kernel)) (mem_ap tb_X4_unaryA (mem_ap tb_X4_skipB mem_nl)))
set_option maxRecDepth 20000 in
theorem tb_X4_disjunctionA : ∀ w ∈ wd_X4_disjunctionA, w ∈ lw_tbl := mem_cd (List.mem_of_getElem? (i := 691) (by decide +kernel)) (mem_ap (mem_ix [692, 694, 4, 150, 744, 746, 11] (by decide +kernel)) (mem_ap tb_X4_conjunctionA (mem_ap tb_X4_skipB mem_nl)))
set_option maxRecDepth 20000 in
theorem tb_X4_awaitA : ∀ w ∈ wd_X4_awaitA, w ∈ lw_tbl := mem_cd (List.mem_of_getElem? (i := 780) (by decide +kernel)) (mem_ap (mem_ix [277, 281, 144, 568] (by decide +kernel)) (mem_ap tb_X11_put (mem_ap tb_wsX40 mem_nl)))
set_option maxRecDepth 20000 in
theorem tb_X4_peekC : ∀ w ∈ wd_X4_peekC, w ∈ lw_tbl := mem_cd (List.mem_of_getElem? (i := 703) (by decide +kernel)) (mem_ap (mem_ix [282] (by decide +kernel)) (mem_ap tb_wsX40 mem_nl))
set_option maxRecDepth 20000 in
theorem tb_X4_skipC : ∀ w ∈ wd_X4_skipC, w ∈ lw_tbl := mem_cd (List.mem_of_getElem? (i := 747) (by decide +kernel)) (mem_ap (mem_ix [700, 702, 6, 150] (by decide +kernel)) (mem_ap tb_X4_peekC mem_nl))
set_option maxRecDepth 20000 in
theorem tb_X4_formulaA : ∀ w ∈ wd_X4_formulaA, w ∈ lw_tbl := mem_cd (List.mem_of_getElem? (i := 687) (by decide +kernel)) (mem_ap (mem_ix [281, 688, 690, 3, 150, 777, 779, 16, 744, 746, 11, 277, 144, 561] (by decide +kernel)) (mem_ap tb_X4_disjunctionA (mem_ap tb_X4_awaitA (mem_ap tb_X4_skipC (mem_ap tb_X11_at (mem_ap tb_wsX40 mem_nl))))))
set_option maxRecDepth 20000 in
theorem tb_X4_parseA : ∀ w ∈ wd_X4_parseA, w ∈ lw_tbl := mem_cd (List.mem_of_getElem? (i := 683) (by decide +kernel)) (mem_ap (mem_ix [278, 279, 280, 281, 282, 684, 686, 2, 150] (by decide +kernel)) (mem_ap tb_X4_formulaA (mem_ap tb_wsX40 mem_nl)))
set_option maxRecDepth 20000 in
theorem tb_X4_fault0 : ∀ w ∈ wd_X4_fault0, w ∈ lw_tbl := mem_cd (List.mem_of_getElem? (i := 785) (by decide +kernel)) (mem_ap (mem_ix [282] (by decide +kernel)) (mem_ap tb_wsX40 mem_nl))
set_option maxRecDepth 20000 in
theorem tb_X11_parseFormula : ∀ w ∈ wd_X11_parseFormula, w ∈ lw_tbl := mem_cd (List.mem_of_getElem? (i := 671) (by decide +kernel)) (mem_ap (mem_ix [486, 672, 673, 674, 146, 489, 676, 677, 678, 149, 491, 498, 680, 681, 682, 150, 782, 783, 784] (by decide +kernel)) (mem_ap tb_X9_isFull0 (mem_ap tb_X6_clear (mem_ap tb_X4_parseA (mem_ap tb_X4_fault0 (mem_ap tb_wsX110 mem_nl))))))
set_option maxRecDepth 20000 in
theorem tb_X9_isEmpty0 : ∀ w ∈ wd_X9_isEmpty0, w ∈ lw_tbl := mem_cd (List.mem_of_getElem? (i := 824) (by decide +kernel)) (mem_ap (mem_ix [195] (by decide +kernel)) (mem_ap tb_wsX90 mem_nl))
set_option maxRecDepth 20000 in
theorem tb_X11_dropFormula : ∀ w ∈ wd_X11_dropFormula, w ∈ lw_tbl := mem_cd (List.mem_of_getElem? (i := 820) (by decide +kernel)) (mem_ap (mem_ix [486, 821, 822, 823, 146] (by decide +kernel)) (mem_ap tb_X9_isEmpty0 (mem_ap tb_wsX110 mem_nl)))
set_option maxRecDepth 20000 in
theorem tb_X9_has0 : ∀ w ∈ wd_X9_has0, w ∈ lw_tbl := mem_cd (List.mem_of_getElem? (i := 836) (by decide +kernel)) (mem_ap (mem_ix [195] (by decide +kernel)) (mem_ap tb_wsX90 mem_nl))
set_option maxRecDepth 20000 in
theorem tb_X11_formulaSize : ∀ w ∈ wd_X11_formulaSize, w ∈ lw_tbl := mem_cd (List.mem_of_getElem? (i := 832) (by decide +kernel)) (mem_ap (mem_ix [486, 833, 834, 835, 146] (by decide +kernel)) (mem_ap tb_X9_has0 (mem_ap tb_wsX110 mem_nl)))
set_option maxRecDepth 20000 in
theorem tb_X11_starHeight : ∀ w ∈ wd_X11_starHeight, w ∈ lw_tbl := mem_cd (List.mem_of_getElem? (i := 844) (by decide +kernel)) (mem_ap (mem_ix [486, 833, 834, 835, 146] (by decide +kernel)) (mem_ap tb_X9_has0 (mem_ap tb_wsX110 mem_nl)))
set_option maxRecDepth 20000 in
theorem tb_X11_textLength : ∀ w ∈ wd_X11_textLength, w ∈ lw_tbl := mem_cd (List.mem_of_getElem? (i := 860) (by decide +kernel)) (mem_ap (mem_ix [486, 833, 834, 835, 146] (by decide +kernel)) (mem_ap tb_X9_has0 (mem_ap tb_wsX110 mem_nl)))
set_option maxRecDepth 20000 in
theorem tb_X11_textChar : ∀ w ∈ wd_X11_textChar, w ∈ lw_tbl := mem_cd (List.mem_of_getElem? (i := 868) (by decide +kernel)) (mem_ap (mem_ix [486, 833, 834, 835, 146] (by decide +kernel)) (mem_ap tb_X9_has0 (mem_ap tb_wsX110 mem_nl)))
set_option maxRecDepth 20000 in
theorem tb_X11_compareFormulas : ∀ w ∈ wd_X11_compareFormulas, w ∈ lw_tbl := mem_cd (List.mem_of_getElem? (i := 887) (by decide +kernel)) (mem_ap (mem_ix [486, 833, 834, 835, 146] (by decide +kernel)) (mem_ap tb_X9_has0 (mem_ap tb_wsX110 mem_nl)))
set_option maxRecDepth 20000 in
theorem tb_X11_holds : ∀ w ∈ wd_X11_holds, w ∈ lw_tbl := mem_cd (List.mem_of_getElem? (i := 899) (by decide +kernel)) (mem_ap (mem_ix [486, 833, 834, 835, 146] (by decide +kernel)) (mem_ap tb_X9_has0 (mem_ap tb_wsX110 mem_nl)))
set_option maxRecDepth 20000 in
theorem tb_X11_extension : ∀ w ∈ wd_X11_extension, w ∈ lw_tbl := mem_cd (List.mem_of_getElem? (i := 961) (by decide +kernel)) (mem_ap (mem_ix [486, 833, 834, 835, 146] (by decide +kernel)) (mem_ap tb_X9_has0 (mem_ap tb_wsX110 mem_nl)))
set_option maxRecDepth 20000 in
theorem tb_X9_size : ∀ w ∈ wd_X9_size, w ∈ lw_tbl := mem_cd (List.mem_of_getElem? (i := 969) (by decide +kernel)) (mem_ap (mem_ix [195] (by decide +kernel)) (mem_ap tb_wsX90 mem_nl))
set_option maxRecDepth 20000 in
theorem tb_X11_distinguish : ∀ w ∈ wd_X11_distinguish, w ∈ lw_tbl := mem_cd (List.mem_of_getElem? (i := 965) (by decide +kernel)) (mem_ap (mem_ix [483, 552, 553, 554, 145, 486, 966, 967, 968, 146] (by decide +kernel)) (mem_ap tb_X3_has (mem_ap tb_X9_size (mem_ap tb_wsX110 mem_nl))))
set_option maxRecDepth 20000 in
theorem tb_X11_reach : ∀ w ∈ wd_X11_reach, w ∈ lw_tbl := mem_cd (List.mem_of_getElem? (i := 974) (by decide +kernel)) (mem_ap (mem_ix [486, 833, 834, 835, 146] (by decide +kernel)) (mem_ap tb_X9_has0 (mem_ap tb_wsX110 mem_nl)))
set_option maxRecDepth 20000 in
theorem tb_X11_runSteps : ∀ w ∈ wd_X11_runSteps, w ∈ lw_tbl := mem_cd (List.mem_of_getElem? (i := 981) (by decide +kernel)) (mem_ap (mem_ix [486, 833, 834, 835, 146] (by decide +kernel)) (mem_ap tb_X9_has0 (mem_ap tb_wsX110 mem_nl)))
set_option maxRecDepth 20000 in
theorem tb_X11_runStep : ∀ w ∈ wd_X11_runStep, w ∈ lw_tbl := mem_cd (List.mem_of_getElem? (i := 1118) (by decide +kernel)) (mem_ap (mem_ix [486, 833, 834, 835, 146] (by decide +kernel)) (mem_ap tb_X9_has0 (mem_ap tb_wsX110 mem_nl)))
set_option maxRecDepth 20000 in
theorem tb_X11_runCount : ∀ w ∈ wd_X11_runCount, w ∈ lw_tbl := mem_cd (List.mem_of_getElem? (i := 1134) (by decide +kernel)) (mem_ap (mem_ix [486, 833, 834, 835, 146, 1135] (by decide +kernel)) (mem_ap tb_X9_has0 (mem_ap tb_wsX110 mem_nl)))
set_option maxRecDepth 20000 in
theorem tb_X11_iterations : ∀ w ∈ wd_X11_iterations, w ∈ lw_tbl := mem_cd (List.mem_of_getElem? (i := 1157) (by decide +kernel)) (mem_ap (mem_ix [486, 833, 834, 835, 146] (by decide +kernel)) (mem_ap tb_X9_has0 (mem_ap tb_wsX110 mem_nl)))
set_option maxRecDepth 20000 in
theorem tb_X11_cycles : ∀ w ∈ wd_X11_cycles, w ∈ lw_tbl := mem_cd (List.mem_of_getElem? (i := 1165) (by decide +kernel)) (mem_ap (mem_ix [486, 833, 834, 835, 146] (by decide +kernel)) (mem_ap tb_X9_has0 (mem_ap tb_wsX110 mem_nl)))
set_option maxRecDepth 20000 in
theorem tb_X11_closureSize : ∀ w ∈ wd_X11_closureSize, w ∈ lw_tbl := mem_cd (List.mem_of_getElem? (i := 1174) (by decide +kernel)) (mem_ap (mem_ix [486, 833, 834, 835, 146] (by decide +kernel)) (mem_ap tb_X9_has0 (mem_ap tb_wsX110 mem_nl)))
set_option maxRecDepth 20000 in
theorem tb_X11_baseMembers : ∀ w ∈ wd_X11_baseMembers, w ∈ lw_tbl := mem_cd (List.mem_of_getElem? (i := 1180) (by decide +kernel)) (mem_ap (mem_ix [486, 833, 834, 835, 146] (by decide +kernel)) (mem_ap tb_X9_has0 (mem_ap tb_wsX110 mem_nl)))
set_option maxRecDepth 20000 in
theorem tb_X11_closureIndex : ∀ w ∈ wd_X11_closureIndex, w ∈ lw_tbl := mem_cd (List.mem_of_getElem? (i := 1194) (by decide +kernel)) (mem_ap (mem_ix [486, 833, 834, 835, 146] (by decide +kernel)) (mem_ap tb_X9_has0 (mem_ap tb_wsX110 mem_nl)))
set_option maxRecDepth 20000 in
theorem tb_X11_storeMember : ∀ w ∈ wd_X11_storeMember, w ∈ lw_tbl := mem_cd (List.mem_of_getElem? (i := 1204) (by decide +kernel)) (mem_ap (mem_ix [486, 833, 834, 835, 146] (by decide +kernel)) (mem_ap tb_X9_has0 (mem_ap tb_wsX110 mem_nl)))
set_option maxRecDepth 20000 in
theorem tb_X11_trueMembers : ∀ w ∈ wd_X11_trueMembers, w ∈ lw_tbl := mem_cd (List.mem_of_getElem? (i := 1209) (by decide +kernel)) (mem_ap (mem_ix [486, 833, 834, 835, 146] (by decide +kernel)) (mem_ap tb_X9_has0 (mem_ap tb_wsX110 mem_nl)))
set_option maxRecDepth 20000 in
theorem tb_X11_filterClasses : ∀ w ∈ wd_X11_filterClasses, w ∈ lw_tbl := mem_cd (List.mem_of_getElem? (i := 1213) (by decide +kernel)) (mem_ap (mem_ix [486, 833, 834, 835, 146] (by decide +kernel)) (mem_ap tb_X9_has0 (mem_ap tb_wsX110 mem_nl)))
set_option maxRecDepth 20000 in
theorem tb_X11_filterClass : ∀ w ∈ wd_X11_filterClass, w ∈ lw_tbl := mem_cd (List.mem_of_getElem? (i := 1238) (by decide +kernel)) (mem_ap (mem_ix [486, 833, 834, 835, 146] (by decide +kernel)) (mem_ap tb_X9_has0 (mem_ap tb_wsX110 mem_nl)))
set_option maxRecDepth 20000 in
theorem tb_X11_filterSuccessors : ∀ w ∈ wd_X11_filterSuccessors, w ∈ lw_tbl := mem_cd (List.mem_of_getElem? (i := 1242) (by decide +kernel)) (mem_ap (mem_ix [486, 833, 834, 835, 146] (by decide +kernel)) (mem_ap tb_X9_has0 (mem_ap tb_wsX110 mem_nl)))
set_option maxRecDepth 20000 in
theorem tb_X11_filterHolds : ∀ w ∈ wd_X11_filterHolds, w ∈ lw_tbl := mem_cd (List.mem_of_getElem? (i := 1246) (by decide +kernel)) (mem_ap (mem_ix [486, 833, 834, 835, 146] (by decide +kernel)) (mem_ap tb_X9_has0 (mem_ap tb_wsX110 mem_nl)))
set_option maxRecDepth 20000 in
theorem tb_X11_applyFilter : ∀ w ∈ wd_X11_applyFilter, w ∈ lw_tbl := mem_cd (List.mem_of_getElem? (i := 1250) (by decide +kernel)) (mem_ap (mem_ix [486, 833, 834, 835, 146] (by decide +kernel)) (mem_ap tb_X9_has0 (mem_ap tb_wsX110 mem_nl)))
set_option maxRecDepth 20000 in
theorem tb_X11_unfold : ∀ w ∈ wd_X11_unfold, w ∈ lw_tbl := mem_cd (List.mem_of_getElem? (i := 1259) (by decide +kernel)) (mem_ap (mem_ix [486, 833, 834, 835, 146] (by decide +kernel)) (mem_ap tb_X9_has0 (mem_ap tb_wsX110 mem_nl)))
set_option maxRecDepth 20000 in
theorem tb_X11_unroll : ∀ w ∈ wd_X11_unroll, w ∈ lw_tbl := mem_cd (List.mem_of_getElem? (i := 1287) (by decide +kernel)) (mem_ap (mem_ix [486, 833, 834, 835, 146] (by decide +kernel)) (mem_ap tb_X9_has0 (mem_ap tb_wsX110 mem_nl)))
set_option maxRecDepth 20000 in
theorem tb_X11_counterModels : ∀ w ∈ wd_X11_counterModels, w ∈ lw_tbl := mem_cd (List.mem_of_getElem? (i := 1305) (by decide +kernel)) (mem_ap (mem_ix [486, 833, 834, 835, 146] (by decide +kernel)) (mem_ap tb_X9_has0 (mem_ap tb_wsX110 mem_nl)))
set_option maxRecDepth 20000 in
theorem tb_X11_firstCounterModel : ∀ w ∈ wd_X11_firstCounterModel, w ∈ lw_tbl := mem_cd (List.mem_of_getElem? (i := 1309) (by decide +kernel)) (mem_ap (mem_ix [486, 833, 834, 835, 146] (by decide +kernel)) (mem_ap tb_X9_has0 (mem_ap tb_wsX110 mem_nl)))
set_option maxRecDepth 20000 in
theorem tb_X11_isValid : ∀ w ∈ wd_X11_isValid, w ∈ lw_tbl := mem_cd (List.mem_of_getElem? (i := 1313) (by decide +kernel)) (mem_ap (mem_ix [486, 833, 834, 835, 146] (by decide +kernel)) (mem_ap tb_X9_has0 (mem_ap tb_wsX110 mem_nl)))
set_option maxRecDepth 20000 in
theorem tb_X11_isSatisfiable : ∀ w ∈ wd_X11_isSatisfiable, w ∈ lw_tbl := mem_cd (List.mem_of_getElem? (i := 1419) (by decide +kernel)) (mem_ap (mem_ix [486, 833, 834, 835, 146] (by decide +kernel)) (mem_ap tb_X9_has0 (mem_ap tb_wsX110 mem_nl)))
set_option maxRecDepth 20000 in
theorem tb_X11_entails : ∀ w ∈ wd_X11_entails, w ∈ lw_tbl := mem_cd (List.mem_of_getElem? (i := 1427) (by decide +kernel)) (mem_ap (mem_ix [486, 833, 834, 835, 146] (by decide +kernel)) (mem_ap tb_X9_has0 (mem_ap tb_wsX110 mem_nl)))
set_option maxRecDepth 20000 in
theorem tb_X0_has : ∀ w ∈ wd_X0_has, w ∈ lw_tbl := mem_cd (List.mem_of_getElem? (i := 1436) (by decide +kernel)) (mem_ap (mem_ix [] (by decide +kernel)) mem_nl)
set_option maxRecDepth 20000 in
theorem tb_X0_isNull1 : ∀ w ∈ wd_X0_isNull1, w ∈ lw_tbl := mem_cd (List.mem_of_getElem? (i := 1440) (by decide +kernel)) (mem_ap (mem_ix [214, 144, 561] (by decide +kernel)) (mem_ap tb_X11_at (mem_ap tb_wsX00 mem_nl)))
set_option maxRecDepth 20000 in
theorem tb_X11_compare : ∀ w ∈ wd_X11_compare, w ∈ lw_tbl := mem_cd (List.mem_of_getElem? (i := 1432) (by decide +kernel)) (mem_ap (mem_ix [488, 1433, 1434, 1435, 147, 1437, 1438, 1439, 486, 966, 967, 968, 146] (by decide +kernel)) (mem_ap tb_X0_has (mem_ap tb_X0_isNull1 (mem_ap tb_X9_size (mem_ap tb_wsX110 mem_nl)))))
set_option maxRecDepth 20000 in
theorem tb_X3_take : ∀ w ∈ wd_X3_take, w ∈ lw_tbl := mem_cd (List.mem_of_getElem? (i := 1254) (by decide +kernel)) (mem_ap (mem_ix [177, 175, 1255, 635, 634, 158, 176] (by decide +kernel)) (mem_ap tb_wsX30 mem_nl))
set_option maxRecDepth 20000 in
theorem tb_X9_take : ∀ w ∈ wd_X9_take, w ∈ lw_tbl := mem_cd (List.mem_of_getElem? (i := 1462) (by decide +kernel)) (mem_ap (mem_ix [195, 192, 1463, 635, 634, 158, 193] (by decide +kernel)) (mem_ap tb_wsX90 mem_nl))
set_option maxRecDepth 20000 in
theorem tb_X11_save : ∀ w ∈ wd_X11_save, w ∈ lw_tbl := mem_cd (List.mem_of_getElem? (i := 1458) (by decide +kernel)) (mem_ap (mem_ix [484, 483, 1251, 1252, 1253, 145, 487, 486, 1459, 1460, 1461, 146, 499, 966, 967, 968] (by decide +kernel)) (mem_ap tb_X3_take (mem_ap tb_X9_take (mem_ap tb_X9_size (mem_ap tb_wsX110 mem_nl)))))
set_option maxRecDepth 20000 in
theorem tb_X11_restore : ∀ w ∈ wd_X11_restore, w ∈ lw_tbl := mem_cd (List.mem_of_getElem? (i := 1467) (by decide +kernel)) (mem_ap (mem_ix [499] (by decide +kernel)) (mem_ap tb_wsX110 mem_nl))
set_option maxRecDepth 20000 in
theorem tb_bitCount0 : ∀ w ∈ wd_bitCount0, w ∈ lw_tbl := mem_cd (List.mem_of_getElem? (i := 1478) (by decide +kernel)) (mem_ap (mem_ix [1479, 1480, 1481] (by decide +kernel)) mem_nl)
set_option maxRecDepth 20000 in
theorem tb_X3_transitions0 : ∀ w ∈ wd_X3_transitions0, w ∈ lw_tbl := mem_cd (List.mem_of_getElem? (i := 1475) (by decide +kernel)) (mem_ap (mem_ix [176, 144, 561, 1476, 1477, 160] (by decide +kernel)) (mem_ap tb_X11_at (mem_ap tb_bitCount0 (mem_ap tb_wsX30 mem_nl))))
set_option maxRecDepth 20000 in
theorem tb_X11_count : ∀ w ∈ wd_X11_count, w ∈ lw_tbl := mem_cd (List.mem_of_getElem? (i := 1471) (by decide +kernel)) (mem_ap (mem_ix [483, 539, 540, 541, 145, 1472, 1473, 1474, 486, 966, 967, 968, 146, 498] (by decide +kernel)) (mem_ap tb_X3_size (mem_ap tb_X3_transitions0 (mem_ap tb_X9_size (mem_ap tb_wsX110 mem_nl)))))
set_option maxRecDepth 20000 in
theorem tb_X0_isType : ∀ w ∈ wd_X0_isType, w ∈ lw_tbl := mem_cd (List.mem_of_getElem? (i := 1494) (by decide +kernel)) (mem_ap (mem_ix [] (by decide +kernel)) mem_nl)
set_option maxRecDepth 20000 in
theorem tb_X11_putWide : ∀ w ∈ wd_X11_putWide, w ∈ lw_tbl := mem_cd (List.mem_of_getElem? (i := 1040) (by decide +kernel)) (mem_ap (mem_ix [] (by decide +kernel)) mem_nl)
set_option maxRecDepth 20000 in
theorem tb_X0_renew : ∀ w ∈ wd_X0_renew, w ∈ lw_tbl := mem_cd (List.mem_of_getElem? (i := 1498) (by decide +kernel)) (mem_ap (mem_ix [214, 144, 568, 215, 216, 1039] (by decide +kernel)) (mem_ap tb_X11_put (mem_ap tb_X11_putWide (mem_ap tb_wsX00 mem_nl))))
set_option maxRecDepth 20000 in
theorem tb_X0_discard : ∀ w ∈ wd_X0_discard, w ∈ lw_tbl := mem_cd (List.mem_of_getElem? (i := 1489) (by decide +kernel)) (mem_ap (mem_ix [214, 144, 568, 215] (by decide +kernel)) (mem_ap tb_X11_put (mem_ap tb_wsX00 mem_nl)))
set_option maxRecDepth 20000 in
theorem tb_X11_allocate : ∀ w ∈ wd_X11_allocate, w ∈ lw_tbl := mem_cd (List.mem_of_getElem? (i := 1485) (by decide +kernel)) (mem_ap (mem_ix [488, 1433, 1434, 1435, 147, 1491, 1492, 1493, 1495, 1496, 1497, 1486, 1487, 1488] (by decide +kernel)) (mem_ap tb_X0_has (mem_ap tb_X0_isType (mem_ap tb_X0_renew (mem_ap tb_X0_discard (mem_ap tb_wsX110 mem_nl))))))
set_option maxRecDepth 20000 in
theorem tb_X11_store : ∀ w ∈ wd_X11_store, w ∈ lw_tbl := mem_cd (List.mem_of_getElem? (i := 1503) (by decide +kernel)) (mem_ap (mem_ix [488, 1433, 1434, 1435, 147, 1437, 1438, 1439] (by decide +kernel)) (mem_ap tb_X0_has (mem_ap tb_X0_isNull1 (mem_ap tb_wsX110 mem_nl))))
set_option maxRecDepth 20000 in
theorem tb_X11_load : ∀ w ∈ wd_X11_load, w ∈ lw_tbl := mem_cd (List.mem_of_getElem? (i := 1514) (by decide +kernel)) (mem_ap (mem_ix [488, 1433, 1434, 1435, 147, 1437, 1438, 1439, 1135] (by decide +kernel)) (mem_ap tb_X0_has (mem_ap tb_X0_isNull1 (mem_ap tb_wsX110 mem_nl))))
set_option maxRecDepth 20000 in
theorem tb_X11_copy : ∀ w ∈ wd_X11_copy, w ∈ lw_tbl := mem_cd (List.mem_of_getElem? (i := 1518) (by decide +kernel)) (mem_ap (mem_ix [488, 1433, 1434, 1435, 147, 1437, 1438, 1439] (by decide +kernel)) (mem_ap tb_X0_has (mem_ap tb_X0_isNull1 (mem_ap tb_wsX110 mem_nl))))
set_option maxRecDepth 20000 in
theorem tb_X12_in : ∀ w ∈ wd_X12_in, w ∈ lw_tbl := mem_cd (List.mem_of_getElem? (i := 1820) (by decide +kernel)) (mem_ap (mem_ix [] (by decide +kernel)) mem_nl)
set_option maxRecDepth 20000 in
theorem tb_X12_clearModel : ∀ w ∈ wd_X12_clearModel, w ∈ lw_tbl := mem_cd (List.mem_of_getElem? (i := 1824) (by decide +kernel)) (mem_ap (mem_ix [1546, 1548, 1547] (by decide +kernel)) (mem_ap tb_wsX120 mem_nl))
set_option maxRecDepth 20000 in
theorem tb_X12_setWorlds : ∀ w ∈ wd_X12_setWorlds, w ∈ lw_tbl := mem_cd (List.mem_of_getElem? (i := 1816) (by decide +kernel)) (mem_ap (mem_ix [1817, 1818, 1819, 157, 1546, 1821, 1823, 71] (by decide +kernel)) (mem_ap tb_X12_in (mem_ap tb_X12_clearModel (mem_ap tb_wsX120 mem_nl))))
set_option maxRecDepth 20000 in
theorem tb_X12_isWorld : ∀ w ∈ wd_X12_isWorld, w ∈ lw_tbl := mem_cd (List.mem_of_getElem? (i := 1832) (by decide +kernel)) (mem_ap (mem_ix [1546, 1818, 1819, 157] (by decide +kernel)) (mem_ap tb_X12_in (mem_ap tb_wsX120 mem_nl)))
set_option maxRecDepth 20000 in
theorem tb_X12_setLetter : ∀ w ∈ wd_X12_setLetter, w ∈ lw_tbl := mem_cd (List.mem_of_getElem? (i := 1828) (by decide +kernel)) (mem_ap (mem_ix [1829, 1831, 72, 157, 1833, 1818, 1819, 1547] (by decide +kernel)) (mem_ap tb_X12_isWorld (mem_ap tb_X12_in (mem_ap tb_wsX120 mem_nl))))
set_option maxRecDepth 20000 in
theorem tb_X12_setTransition : ∀ w ∈ wd_X12_setTransition, w ∈ lw_tbl := mem_cd (List.mem_of_getElem? (i := 1837) (by decide +kernel)) (mem_ap (mem_ix [1838, 1818, 1819, 157, 1829, 1831, 72, 1548] (by decide +kernel)) (mem_ap tb_X12_in (mem_ap tb_X12_isWorld (mem_ap tb_wsX120 mem_nl))))
set_option maxRecDepth 20000 in
theorem tb_X12_letters : ∀ w ∈ wd_X12_letters, w ∈ lw_tbl := mem_cd (List.mem_of_getElem? (i := 1842) (by decide +kernel)) (mem_ap (mem_ix [1829, 1831, 72, 157, 1547] (by decide +kernel)) (mem_ap tb_X12_isWorld (mem_ap tb_wsX120 mem_nl)))
set_option maxRecDepth 20000 in
theorem tb_X12_successors : ∀ w ∈ wd_X12_successors, w ∈ lw_tbl := mem_cd (List.mem_of_getElem? (i := 1846) (by decide +kernel)) (mem_ap (mem_ix [1838, 1818, 1819, 157, 1829, 1831, 72, 1548] (by decide +kernel)) (mem_ap tb_X12_in (mem_ap tb_X12_isWorld (mem_ap tb_wsX120 mem_nl))))
set_option maxRecDepth 20000 in
theorem tb_X12_bitsOf : ∀ w ∈ wd_X12_bitsOf, w ∈ lw_tbl := mem_cd (List.mem_of_getElem? (i := 1853) (by decide +kernel)) (mem_ap (mem_ix [1817, 1818, 1819, 157, 1854, 1833] (by decide +kernel)) (mem_ap tb_X12_in mem_nl))
set_option maxRecDepth 20000 in
theorem tb_X12_useCode : ∀ w ∈ wd_X12_useCode, w ∈ lw_tbl := mem_cd (List.mem_of_getElem? (i := 1858) (by decide +kernel)) (mem_ap (mem_ix [1561, 1563, 1562] (by decide +kernel)) (mem_ap tb_wsX120 mem_nl))
set_option maxRecDepth 20000 in
theorem tb_X12_becomeUsed : ∀ w ∈ wd_X12_becomeUsed, w ∈ lw_tbl := mem_cd (List.mem_of_getElem? (i := 1862) (by decide +kernel)) (mem_ap (mem_ix [1561, 1546, 1548, 1563, 1547, 1562] (by decide +kernel)) (mem_ap tb_wsX120 mem_nl))
set_option maxRecDepth 20000 in
theorem tb_X12_loadModel : ∀ w ∈ wd_X12_loadModel, w ∈ lw_tbl := mem_cd (List.mem_of_getElem? (i := 1850) (by decide +kernel)) (mem_ap (mem_ix [1851, 1852, 157, 1818, 1819, 1855, 1857, 73, 1859, 1861, 74] (by decide +kernel)) (mem_ap tb_X12_bitsOf (mem_ap tb_X12_in (mem_ap tb_X12_useCode (mem_ap tb_X12_becomeUsed mem_nl)))))
set_option maxRecDepth 20000 in
theorem tb_X12_findGroups : ∀ w ∈ wd_X12_findGroups, w ∈ lw_tbl := mem_cd (List.mem_of_getElem? (i := 1870) (by decide +kernel)) (mem_ap (mem_ix [1546, 1564, 1565, 1547, 1548] (by decide +kernel)) (mem_ap tb_wsX120 mem_nl))
set_option maxRecDepth 20000 in
theorem tb_X12_bisimulationClasses : ∀ w ∈ wd_X12_bisimulationClasses, w ∈ lw_tbl := mem_cd (List.mem_of_getElem? (i := 1866) (by decide +kernel)) (mem_ap (mem_ix [1867, 1869, 75, 157] (by decide +kernel)) (mem_ap tb_X12_findGroups mem_nl))
set_option maxRecDepth 20000 in
theorem tb_X12_bisimulationClass : ∀ w ∈ wd_X12_bisimulationClass, w ∈ lw_tbl := mem_cd (List.mem_of_getElem? (i := 1874) (by decide +kernel)) (mem_ap (mem_ix [1829, 1831, 72, 157, 1867, 1869, 75, 1564] (by decide +kernel)) (mem_ap tb_X12_isWorld (mem_ap tb_X12_findGroups (mem_ap tb_wsX120 mem_nl))))
set_option maxRecDepth 20000 in
theorem tb_X12_appendChar : ∀ w ∈ wd_X12_appendChar, w ∈ lw_tbl := mem_cd (List.mem_of_getElem? (i := 1935) (by decide +kernel)) (mem_ap (mem_ix [1936, 1818, 1819, 157, 1553, 1552] (by decide +kernel)) (mem_ap tb_X12_in (mem_ap tb_wsX120 mem_nl)))
set_option maxRecDepth 20000 in
theorem tb_X12_here0 : ∀ w ∈ wd_X12_here0, w ∈ lw_tbl := mem_cd (List.mem_of_getElem? (i := 1948) (by decide +kernel)) (mem_ap (mem_ix [1580, 1553] (by decide +kernel)) (mem_ap tb_wsX120 mem_nl))
set_option maxRecDepth 20000 in
theorem tb_X12_readOperand0 : ∀ w ∈ wd_X12_readOperand0, w ∈ lw_tbl := mem_cd (List.mem_of_getElem? (i := 1944) (by decide +kernel)) (mem_ap (mem_ix [1945, 1947, 85, 157, 1582, 1953, 1954, 1818, 1819, 1581] (by decide +kernel)) (mem_ap tb_X12_here0 (mem_ap tb_X12_in (mem_ap tb_wsX120 mem_nl))))
set_option maxRecDepth 20000 in
theorem tb_X12_parseFormula : ∀ w ∈ wd_X12_parseFormula, w ∈ lw_tbl := mem_cd (List.mem_of_getElem? (i := 1940) (by decide +kernel)) (mem_ap (mem_ix [1549, 1566, 1576, 1578, 1579, 1580, 1581, 1584, 1583, 1582, 1941, 1943, 84, 157, 1553] (by decide +kernel)) (mem_ap tb_X12_readOperand0 (mem_ap tb_wsX120 mem_nl)))
set_option maxRecDepth 20000 in
theorem tb_X12_dropFormula : ∀ w ∈ wd_X12_dropFormula, w ∈ lw_tbl := mem_cd (List.mem_of_getElem? (i := 2000) (by decide +kernel)) (mem_ap (mem_ix [1549] (by decide +kernel)) (mem_ap tb_wsX120 mem_nl))
set_option maxRecDepth 20000 in
theorem tb_X12_isFormula : ∀ w ∈ wd_X12_isFormula, w ∈ lw_tbl := mem_cd (List.mem_of_getElem? (i := 1882) (by decide +kernel)) (mem_ap (mem_ix [1549, 1818, 1819, 157] (by decide +kernel)) (mem_ap tb_X12_in (mem_ap tb_wsX120 mem_nl)))
set_option maxRecDepth 20000 in
theorem tb_X12_formulaSize : ∀ w ∈ wd_X12_formulaSize, w ∈ lw_tbl := mem_cd (List.mem_of_getElem? (i := 1878) (by decide +kernel)) (mem_ap (mem_ix [1879, 1881, 76, 157] (by decide +kernel)) (mem_ap tb_X12_isFormula mem_nl))
set_option maxRecDepth 20000 in
theorem tb_X12_starHeight : ∀ w ∈ wd_X12_starHeight, w ∈ lw_tbl := mem_cd (List.mem_of_getElem? (i := 1886) (by decide +kernel)) (mem_ap (mem_ix [1879, 1881, 76, 157] (by decide +kernel)) (mem_ap tb_X12_isFormula mem_nl))
set_option maxRecDepth 20000 in
theorem tb_X12_textLength : ∀ w ∈ wd_X12_textLength, w ∈ lw_tbl := mem_cd (List.mem_of_getElem? (i := 1907) (by decide +kernel)) (mem_ap (mem_ix [1879, 1881, 76, 157] (by decide +kernel)) (mem_ap tb_X12_isFormula mem_nl))
set_option maxRecDepth 20000 in
theorem tb_X12_textChar : ∀ w ∈ wd_X12_textChar, w ∈ lw_tbl := mem_cd (List.mem_of_getElem? (i := 1919) (by decide +kernel)) (mem_ap (mem_ix [1879, 1881, 76, 157] (by decide +kernel)) (mem_ap tb_X12_isFormula mem_nl))
set_option maxRecDepth 20000 in
theorem tb_X12_compareFormulas : ∀ w ∈ wd_X12_compareFormulas, w ∈ lw_tbl := mem_cd (List.mem_of_getElem? (i := 1923) (by decide +kernel)) (mem_ap (mem_ix [1879, 1881, 76, 157] (by decide +kernel)) (mem_ap tb_X12_isFormula mem_nl))
set_option maxRecDepth 20000 in
theorem tb_X12_holds : ∀ w ∈ wd_X12_holds, w ∈ lw_tbl := mem_cd (List.mem_of_getElem? (i := 2004) (by decide +kernel)) (mem_ap (mem_ix [1879, 1881, 76, 157] (by decide +kernel)) (mem_ap tb_X12_isFormula mem_nl))
set_option maxRecDepth 20000 in
theorem tb_X12_extension : ∀ w ∈ wd_X12_extension, w ∈ lw_tbl := mem_cd (List.mem_of_getElem? (i := 2028) (by decide +kernel)) (mem_ap (mem_ix [1879, 1881, 76, 157] (by decide +kernel)) (mem_ap tb_X12_isFormula mem_nl))
set_option maxRecDepth 20000 in
theorem tb_X12_distinguish : ∀ w ∈ wd_X12_distinguish, w ∈ lw_tbl := mem_cd (List.mem_of_getElem? (i := 2032) (by decide +kernel)) (mem_ap (mem_ix [1829, 1831, 72, 157, 1549] (by decide +kernel)) (mem_ap tb_X12_isWorld (mem_ap tb_wsX120 mem_nl)))
set_option maxRecDepth 20000 in
theorem tb_X12_reach : ∀ w ∈ wd_X12_reach, w ∈ lw_tbl := mem_cd (List.mem_of_getElem? (i := 2037) (by decide +kernel)) (mem_ap (mem_ix [1879, 1881, 76, 157] (by decide +kernel)) (mem_ap tb_X12_isFormula mem_nl))
set_option maxRecDepth 20000 in
theorem tb_X12_wrongRun : ∀ w ∈ wd_X12_wrongRun, w ∈ lw_tbl := mem_cd (List.mem_of_getElem? (i := 2045) (by decide +kernel)) (mem_ap (mem_ix [1879, 1881, 76, 157] (by decide +kernel)) (mem_ap tb_X12_isFormula mem_nl))
set_option maxRecDepth 20000 in
theorem tb_X12_runSteps : ∀ w ∈ wd_X12_runSteps, w ∈ lw_tbl := mem_cd (List.mem_of_getElem? (i := 2041) (by decide +kernel)) (mem_ap (mem_ix [2042, 2044, 102, 157] (by decide +kernel)) (mem_ap tb_X12_wrongRun mem_nl))
set_option maxRecDepth 20000 in
theorem tb_X12_runStep : ∀ w ∈ wd_X12_runStep, w ∈ lw_tbl := mem_cd (List.mem_of_getElem? (i := 2067) (by decide +kernel)) (mem_ap (mem_ix [1818, 1819, 157, 2042, 2044, 102] (by decide +kernel)) (mem_ap tb_X12_in (mem_ap tb_X12_wrongRun mem_nl)))
set_option maxRecDepth 20000 in
theorem tb_X12_runCount : ∀ w ∈ wd_X12_runCount, w ∈ lw_tbl := mem_cd (List.mem_of_getElem? (i := 2091) (by decide +kernel)) (mem_ap (mem_ix [2042, 2044, 102, 157, 2093] (by decide +kernel)) (mem_ap tb_X12_wrongRun mem_nl))
set_option maxRecDepth 20000 in
theorem tb_X12_iterations : ∀ w ∈ wd_X12_iterations, w ∈ lw_tbl := mem_cd (List.mem_of_getElem? (i := 2132) (by decide +kernel)) (mem_ap (mem_ix [1879, 1881, 76, 157] (by decide +kernel)) (mem_ap tb_X12_isFormula mem_nl))
set_option maxRecDepth 20000 in
theorem tb_X12_cycles : ∀ w ∈ wd_X12_cycles, w ∈ lw_tbl := mem_cd (List.mem_of_getElem? (i := 2136) (by decide +kernel)) (mem_ap (mem_ix [1879, 1881, 76, 157] (by decide +kernel)) (mem_ap tb_X12_isFormula mem_nl))
set_option maxRecDepth 20000 in
theorem tb_X12_closureSize : ∀ w ∈ wd_X12_closureSize, w ∈ lw_tbl := mem_cd (List.mem_of_getElem? (i := 2140) (by decide +kernel)) (mem_ap (mem_ix [1879, 1881, 76, 157] (by decide +kernel)) (mem_ap tb_X12_isFormula mem_nl))
set_option maxRecDepth 20000 in
theorem tb_X12_baseMembers : ∀ w ∈ wd_X12_baseMembers, w ∈ lw_tbl := mem_cd (List.mem_of_getElem? (i := 2172) (by decide +kernel)) (mem_ap (mem_ix [1879, 1881, 76, 157] (by decide +kernel)) (mem_ap tb_X12_isFormula mem_nl))
set_option maxRecDepth 20000 in
theorem tb_X12_closureIndex : ∀ w ∈ wd_X12_closureIndex, w ∈ lw_tbl := mem_cd (List.mem_of_getElem? (i := 2184) (by decide +kernel)) (mem_ap (mem_ix [1879, 1881, 76, 157] (by decide +kernel)) (mem_ap tb_X12_isFormula mem_nl))
set_option maxRecDepth 20000 in
theorem tb_X12_storeMember : ∀ w ∈ wd_X12_storeMember, w ∈ lw_tbl := mem_cd (List.mem_of_getElem? (i := 2188) (by decide +kernel)) (mem_ap (mem_ix [1879, 1881, 76, 157] (by decide +kernel)) (mem_ap tb_X12_isFormula mem_nl))
set_option maxRecDepth 20000 in
theorem tb_X12_trueMembers : ∀ w ∈ wd_X12_trueMembers, w ∈ lw_tbl := mem_cd (List.mem_of_getElem? (i := 2192) (by decide +kernel)) (mem_ap (mem_ix [1879, 1881, 76, 157] (by decide +kernel)) (mem_ap tb_X12_isFormula mem_nl))
set_option maxRecDepth 20000 in
theorem tb_X12_filterClasses : ∀ w ∈ wd_X12_filterClasses, w ∈ lw_tbl := mem_cd (List.mem_of_getElem? (i := 2200) (by decide +kernel)) (mem_ap (mem_ix [1879, 1881, 76, 157] (by decide +kernel)) (mem_ap tb_X12_isFormula mem_nl))
set_option maxRecDepth 20000 in
theorem tb_X12_filterClass : ∀ w ∈ wd_X12_filterClass, w ∈ lw_tbl := mem_cd (List.mem_of_getElem? (i := 2208) (by decide +kernel)) (mem_ap (mem_ix [1879, 1881, 76, 157] (by decide +kernel)) (mem_ap tb_X12_isFormula mem_nl))
set_option maxRecDepth 20000 in
theorem tb_X12_filterSuccessors : ∀ w ∈ wd_X12_filterSuccessors, w ∈ lw_tbl := mem_cd (List.mem_of_getElem? (i := 2212) (by decide +kernel)) (mem_ap (mem_ix [1879, 1881, 76, 157] (by decide +kernel)) (mem_ap tb_X12_isFormula mem_nl))
set_option maxRecDepth 20000 in
theorem tb_X12_filterHolds : ∀ w ∈ wd_X12_filterHolds, w ∈ lw_tbl := mem_cd (List.mem_of_getElem? (i := 2220) (by decide +kernel)) (mem_ap (mem_ix [1879, 1881, 76, 157] (by decide +kernel)) (mem_ap tb_X12_isFormula mem_nl))
set_option maxRecDepth 20000 in
theorem tb_X12_applyFilter : ∀ w ∈ wd_X12_applyFilter, w ∈ lw_tbl := mem_cd (List.mem_of_getElem? (i := 2224) (by decide +kernel)) (mem_ap (mem_ix [1879, 1881, 76, 157] (by decide +kernel)) (mem_ap tb_X12_isFormula mem_nl))
set_option maxRecDepth 20000 in
theorem tb_X12_unfold : ∀ w ∈ wd_X12_unfold, w ∈ lw_tbl := mem_cd (List.mem_of_getElem? (i := 2228) (by decide +kernel)) (mem_ap (mem_ix [1879, 1881, 76, 157] (by decide +kernel)) (mem_ap tb_X12_isFormula mem_nl))
set_option maxRecDepth 20000 in
theorem tb_X12_unroll : ∀ w ∈ wd_X12_unroll, w ∈ lw_tbl := mem_cd (List.mem_of_getElem? (i := 2248) (by decide +kernel)) (mem_ap (mem_ix [1879, 1881, 76, 157] (by decide +kernel)) (mem_ap tb_X12_isFormula mem_nl))
set_option maxRecDepth 20000 in
theorem tb_X12_searchSpace : ∀ w ∈ wd_X12_searchSpace, w ∈ lw_tbl := mem_cd (List.mem_of_getElem? (i := 2260) (by decide +kernel)) (mem_ap (mem_ix [1879, 1881, 76, 157] (by decide +kernel)) (mem_ap tb_X12_isFormula mem_nl))
set_option maxRecDepth 20000 in
theorem tb_X12_counterModels : ∀ w ∈ wd_X12_counterModels, w ∈ lw_tbl := mem_cd (List.mem_of_getElem? (i := 2256) (by decide +kernel)) (mem_ap (mem_ix [2257, 2259, 135, 157] (by decide +kernel)) (mem_ap tb_X12_searchSpace mem_nl))
set_option maxRecDepth 20000 in
theorem tb_X12_firstCounterModel : ∀ w ∈ wd_X12_firstCounterModel, w ∈ lw_tbl := mem_cd (List.mem_of_getElem? (i := 2264) (by decide +kernel)) (mem_ap (mem_ix [2257, 2259, 135, 157] (by decide +kernel)) (mem_ap tb_X12_searchSpace mem_nl))
set_option maxRecDepth 20000 in
theorem tb_X12_isValid : ∀ w ∈ wd_X12_isValid, w ∈ lw_tbl := mem_cd (List.mem_of_getElem? (i := 2268) (by decide +kernel)) (mem_ap (mem_ix [1879, 1881, 76, 157] (by decide +kernel)) (mem_ap tb_X12_isFormula mem_nl))
set_option maxRecDepth 20000 in
theorem tb_X12_isSatisfiable : ∀ w ∈ wd_X12_isSatisfiable, w ∈ lw_tbl := mem_cd (List.mem_of_getElem? (i := 2307) (by decide +kernel)) (mem_ap (mem_ix [1879, 1881, 76, 157] (by decide +kernel)) (mem_ap tb_X12_isFormula mem_nl))
set_option maxRecDepth 20000 in
theorem tb_X12_entails : ∀ w ∈ wd_X12_entails, w ∈ lw_tbl := mem_cd (List.mem_of_getElem? (i := 2311) (by decide +kernel)) (mem_ap (mem_ix [1879, 1881, 76, 157] (by decide +kernel)) (mem_ap tb_X12_isFormula mem_nl))
set_option maxRecDepth 20000 in
theorem tb_X12_compare : ∀ w ∈ wd_X12_compare, w ∈ lw_tbl := mem_cd (List.mem_of_getElem? (i := 2315) (by decide +kernel)) (mem_ap (mem_ix [2316, 1818, 1819, 157, 1630, 1549] (by decide +kernel)) (mem_ap tb_X12_in (mem_ap tb_wsX120 mem_nl)))
set_option maxRecDepth 20000 in
theorem tb_X12_save : ∀ w ∈ wd_X12_save, w ∈ lw_tbl := mem_cd (List.mem_of_getElem? (i := 2321) (by decide +kernel)) (mem_ap (mem_ix [1554, 1546, 1555, 1549, 1558, 1560, 1551, 1559, 1550, 1557, 1548, 1556, 1547] (by decide +kernel)) (mem_ap tb_wsX120 mem_nl))
set_option maxRecDepth 20000 in
theorem tb_X12_restore : ∀ w ∈ wd_X12_restore, w ∈ lw_tbl := mem_cd (List.mem_of_getElem? (i := 2325) (by decide +kernel)) (mem_ap (mem_ix [1554] (by decide +kernel)) (mem_ap tb_wsX120 mem_nl))
set_option maxRecDepth 20000 in
theorem tb_X12_count : ∀ w ∈ wd_X12_count, w ∈ lw_tbl := mem_cd (List.mem_of_getElem? (i := 2329) (by decide +kernel)) (mem_ap (mem_ix [1553, 1549, 1546, 1548] (by decide +kernel)) (mem_ap tb_wsX120 mem_nl))
set_option maxRecDepth 20000 in
theorem tb_X12_allocate : ∀ w ∈ wd_X12_allocate, w ∈ lw_tbl := mem_cd (List.mem_of_getElem? (i := 2333) (by decide +kernel)) (mem_ap (mem_ix [2316, 1818, 1819, 157, 2295, 1854, 1630, 1631, 1632] (by decide +kernel)) (mem_ap tb_X12_in (mem_ap tb_wsX120 mem_nl)))
set_option maxRecDepth 20000 in
theorem tb_X12_store : ∀ w ∈ wd_X12_store, w ∈ lw_tbl := mem_cd (List.mem_of_getElem? (i := 2337) (by decide +kernel)) (mem_ap (mem_ix [2316, 1818, 1819, 157, 1630] (by decide +kernel)) (mem_ap tb_X12_in (mem_ap tb_wsX120 mem_nl)))
set_option maxRecDepth 20000 in
theorem tb_X12_load : ∀ w ∈ wd_X12_load, w ∈ lw_tbl := mem_cd (List.mem_of_getElem? (i := 2344) (by decide +kernel)) (mem_ap (mem_ix [2316, 1818, 1819, 157, 1631, 2093] (by decide +kernel)) (mem_ap tb_X12_in (mem_ap tb_wsX120 mem_nl)))
set_option maxRecDepth 20000 in
theorem tb_X12_copy : ∀ w ∈ wd_X12_copy, w ∈ lw_tbl := mem_cd (List.mem_of_getElem? (i := 2348) (by decide +kernel)) (mem_ap (mem_ix [2316, 1818, 1819, 157, 1630] (by decide +kernel)) (mem_ap tb_X12_in (mem_ap tb_wsX120 mem_nl)))
def wo_law_0 : List Cond := [.methodLink RL 13 yX11_setWorlds, .instanceMethod yX11_setWorlds, .selects RX11 yX11_setWorlds yX11_setWorlds, .initialized RX11, .methodLink RL 17 yX12_setWorlds, .instanceMethod yX12_setWorlds, .selects RX12 yX12_setWorlds yX12_setWorlds, .initialized RX12, .methodLink RL 18 yX11_setLetter, .instanceMethod yX11_setLetter, .selects RX11 yX11_setLetter yX11_setLetter, .methodLink RL 22 yX12_setLetter, .instanceMethod yX12_setLetter, .selects RX12 yX12_setLetter yX12_setLetter, .methodLink RL 23 yX11_setTransition, .instanceMethod yX11_setTransition, .selects RX11 yX11_setTransition yX11_setTransition, .methodLink RL 27 yX12_setTransition, .instanceMethod yX12_setTransition, .selects RX12 yX12_setTransition yX12_setTransition, .methodLink RL 28 yX11_letters, .instanceMethod yX11_letters, .selects RX11 yX11_letters yX11_letters, .methodLink RL 31 yX12_letters, .instanceMethod yX12_letters, .selects RX12 yX12_letters yX12_letters, .methodLink RL 32 yX11_successors, .instanceMethod yX11_successors, .selects RX11 yX11_successors yX11_successors, .methodLink RL 36 yX12_successors, .instanceMethod yX12_successors, .selects RX12 yX12_successors yX12_successors, .methodLink RL 37 yX11_loadModel, .instanceMethod yX11_loadModel, .selects RX11 yX11_loadModel yX11_loadModel, .methodLink RL 41 yX12_loadModel, .instanceMethod yX12_loadModel, .selects RX12 yX12_loadModel yX12_loadModel, .methodLink RL 42 yX11_bisimulationClasses, .instanceMethod yX11_bisimulationClasses]
set_option maxRecDepth 20000 in
theorem mi_law_0 : ∀ w ∈ wo_law_0, w ∈ lw_tbl := mem_ix [535, 536, 537, 144, 1813, 1814, 1815, 157, 548, 549, 550, 1825, 1826, 1827, 570, 571, 572, 1834, 1835, 1836, 585, 586, 587, 1839, 1840, 1841, 593, 594, 595, 1843, 1844, 1845, 597, 598, 599, 1847, 1848, 1849, 614, 615] (by decide +kernel)
theorem mo_law_0 {w : Cond} (i : Nat) (h : wo_law_0[i]? = some w) : w ∈ lw_tbl := mi_law_0 w (List.mem_of_getElem? h)
def wo_law_1 : List Cond := [.selects RX11 yX11_bisimulationClasses yX11_bisimulationClasses, .methodLink RL 46 yX12_bisimulationClasses, .instanceMethod yX12_bisimulationClasses, .selects RX12 yX12_bisimulationClasses yX12_bisimulationClasses, .methodLink RL 47 yX11_bisimulationClass, .instanceMethod yX11_bisimulationClass, .selects RX11 yX11_bisimulationClass yX11_bisimulationClass, .methodLink RL 50 yX12_bisimulationClass, .instanceMethod yX12_bisimulationClass, .selects RX12 yX12_bisimulationClass yX12_bisimulationClass, .methodLink RL 51 yX11_appendChar, .instanceMethod yX11_appendChar, .selects RX11 yX11_appendChar yX11_appendChar, .methodLink RL 54 yX12_appendChar, .instanceMethod yX12_appendChar, .selects RX12 yX12_appendChar yX12_appendChar, .methodLink RL 55 yX11_parseFormula, .instanceMethod yX11_parseFormula, .selects RX11 yX11_parseFormula yX11_parseFormula, .methodLink RL 58 yX12_parseFormula, .instanceMethod yX12_parseFormula, .selects RX12 yX12_parseFormula yX12_parseFormula, .methodLink RL 59 yX11_dropFormula, .instanceMethod yX11_dropFormula, .selects RX11 yX11_dropFormula yX11_dropFormula, .methodLink RL 62 yX12_dropFormula, .instanceMethod yX12_dropFormula, .selects RX12 yX12_dropFormula yX12_dropFormula, .methodLink RL 63 yX11_formulaSize, .instanceMethod yX11_formulaSize, .selects RX11 yX11_formulaSize yX11_formulaSize, .methodLink RL 66 yX12_formulaSize, .instanceMethod yX12_formulaSize, .selects RX12 yX12_formulaSize yX12_formulaSize, .methodLink RL 67 yX11_starHeight, .instanceMethod yX11_starHeight, .selects RX11 yX11_starHeight yX11_starHeight, .methodLink RL 70 yX12_starHeight, .instanceMethod yX12_starHeight, .selects RX12 yX12_starHeight yX12_starHeight]
set_option maxRecDepth 20000 in
theorem mi_law_1 : ∀ w ∈ wo_law_1, w ∈ lw_tbl := mem_ix [616, 1863, 1864, 1865, 658, 659, 660, 1871, 1872, 1873, 663, 664, 665, 1932, 1933, 1934, 668, 669, 670, 1937, 1938, 1939, 817, 818, 819, 1997, 1998, 1999, 829, 830, 831, 1875, 1876, 1877, 841, 842, 843, 1883, 1884, 1885] (by decide +kernel)
theorem mo_law_1 {w : Cond} (i : Nat) (h : wo_law_1[i]? = some w) : w ∈ lw_tbl := mi_law_1 w (List.mem_of_getElem? h)
def wo_law_2 : List Cond := [.methodLink RL 71 yX11_textLength, .instanceMethod yX11_textLength, .selects RX11 yX11_textLength yX11_textLength, .methodLink RL 74 yX12_textLength, .instanceMethod yX12_textLength, .selects RX12 yX12_textLength yX12_textLength, .methodLink RL 75 yX11_textChar, .instanceMethod yX11_textChar, .selects RX11 yX11_textChar yX11_textChar, .methodLink RL 78 yX12_textChar, .instanceMethod yX12_textChar, .selects RX12 yX12_textChar yX12_textChar, .methodLink RL 79 yX11_compareFormulas, .instanceMethod yX11_compareFormulas, .selects RX11 yX11_compareFormulas yX11_compareFormulas, .methodLink RL 82 yX12_compareFormulas, .instanceMethod yX12_compareFormulas, .selects RX12 yX12_compareFormulas yX12_compareFormulas, .methodLink RL 83 yX11_holds, .instanceMethod yX11_holds, .selects RX11 yX11_holds yX11_holds, .methodLink RL 86 yX12_holds, .instanceMethod yX12_holds, .selects RX12 yX12_holds yX12_holds, .methodLink RL 87 yX11_extension, .instanceMethod yX11_extension, .selects RX11 yX11_extension yX11_extension, .methodLink RL 90 yX12_extension, .instanceMethod yX12_extension, .selects RX12 yX12_extension yX12_extension, .methodLink RL 91 yX11_distinguish, .instanceMethod yX11_distinguish, .selects RX11 yX11_distinguish yX11_distinguish, .methodLink RL 94 yX12_distinguish, .instanceMethod yX12_distinguish, .selects RX12 yX12_distinguish yX12_distinguish, .methodLink RL 95 yX11_reach, .instanceMethod yX11_reach, .selects RX11 yX11_reach yX11_reach, .methodLink RL 98 yX12_reach]
set_option maxRecDepth 20000 in
theorem mi_law_2 : ∀ w ∈ wo_law_2, w ∈ lw_tbl := mem_ix [857, 858, 859, 1904, 1905, 1906, 865, 866, 867, 1916, 1917, 1918, 884, 885, 886, 1920, 1921, 1922, 896, 897, 898, 2001, 2002, 2003, 958, 959, 960, 2025, 2026, 2027, 962, 963, 964, 2029, 2030, 2031, 971, 972, 973, 2034] (by decide +kernel)
theorem mo_law_2 {w : Cond} (i : Nat) (h : wo_law_2[i]? = some w) : w ∈ lw_tbl := mi_law_2 w (List.mem_of_getElem? h)
def wo_law_3 : List Cond := [.instanceMethod yX12_reach, .selects RX12 yX12_reach yX12_reach, .methodLink RL 99 yX11_runSteps, .instanceMethod yX11_runSteps, .selects RX11 yX11_runSteps yX11_runSteps, .methodLink RL 103 yX12_runSteps, .instanceMethod yX12_runSteps, .selects RX12 yX12_runSteps yX12_runSteps, .methodLink RL 104 yX11_runStep, .instanceMethod yX11_runStep, .selects RX11 yX11_runStep yX11_runStep, .methodLink RL 108 yX12_runStep, .instanceMethod yX12_runStep, .selects RX12 yX12_runStep yX12_runStep, .methodLink RL 109 yX11_runCount, .instanceMethod yX11_runCount, .selects RX11 yX11_runCount yX11_runCount, .methodLink RL 113 yX12_runCount, .instanceMethod yX12_runCount, .selects RX12 yX12_runCount yX12_runCount, .methodLink RL 114 yX11_iterations, .instanceMethod yX11_iterations, .selects RX11 yX11_iterations yX11_iterations, .methodLink RL 117 yX12_iterations, .instanceMethod yX12_iterations, .selects RX12 yX12_iterations yX12_iterations, .methodLink RL 118 yX11_cycles, .instanceMethod yX11_cycles, .selects RX11 yX11_cycles yX11_cycles, .methodLink RL 121 yX12_cycles, .instanceMethod yX12_cycles, .selects RX12 yX12_cycles yX12_cycles, .methodLink RL 122 yX11_closureSize, .instanceMethod yX11_closureSize, .selects RX11 yX11_closureSize yX11_closureSize, .methodLink RL 125 yX12_closureSize, .instanceMethod yX12_closureSize, .selects RX12 yX12_closureSize yX12_closureSize, .methodLink RL 126 yX11_baseMembers, .instanceMethod yX11_baseMembers]
set_option maxRecDepth 20000 in
theorem mi_law_3 : ∀ w ∈ wo_law_3, w ∈ lw_tbl := mem_ix [2035, 2036, 978, 979, 980, 2038, 2039, 2040, 1115, 1116, 1117, 2064, 2065, 2066, 1131, 1132, 1133, 2088, 2089, 2090, 1154, 1155, 1156, 2129, 2130, 2131, 1162, 1163, 1164, 2133, 2134, 2135, 1171, 1172, 1173, 2137, 2138, 2139, 1177, 1178] (by decide +kernel)
theorem mo_law_3 {w : Cond} (i : Nat) (h : wo_law_3[i]? = some w) : w ∈ lw_tbl := mi_law_3 w (List.mem_of_getElem? h)
def wo_law_4 : List Cond := [.selects RX11 yX11_baseMembers yX11_baseMembers, .methodLink RL 129 yX12_baseMembers, .instanceMethod yX12_baseMembers, .selects RX12 yX12_baseMembers yX12_baseMembers, .methodLink RL 130 yX11_closureIndex, .instanceMethod yX11_closureIndex, .selects RX11 yX11_closureIndex yX11_closureIndex, .methodLink RL 133 yX12_closureIndex, .instanceMethod yX12_closureIndex, .selects RX12 yX12_closureIndex yX12_closureIndex, .methodLink RL 134 yX11_storeMember, .instanceMethod yX11_storeMember, .selects RX11 yX11_storeMember yX11_storeMember, .methodLink RL 137 yX12_storeMember, .instanceMethod yX12_storeMember, .selects RX12 yX12_storeMember yX12_storeMember, .methodLink RL 138 yX11_trueMembers, .instanceMethod yX11_trueMembers, .selects RX11 yX11_trueMembers yX11_trueMembers, .methodLink RL 141 yX12_trueMembers, .instanceMethod yX12_trueMembers, .selects RX12 yX12_trueMembers yX12_trueMembers, .methodLink RL 142 yX11_filterClasses, .instanceMethod yX11_filterClasses, .selects RX11 yX11_filterClasses yX11_filterClasses, .methodLink RL 145 yX12_filterClasses, .instanceMethod yX12_filterClasses, .selects RX12 yX12_filterClasses yX12_filterClasses, .methodLink RL 146 yX11_filterClass, .instanceMethod yX11_filterClass, .selects RX11 yX11_filterClass yX11_filterClass, .methodLink RL 149 yX12_filterClass, .instanceMethod yX12_filterClass, .selects RX12 yX12_filterClass yX12_filterClass, .methodLink RL 150 yX11_filterSuccessors, .instanceMethod yX11_filterSuccessors, .selects RX11 yX11_filterSuccessors yX11_filterSuccessors, .methodLink RL 153 yX12_filterSuccessors, .instanceMethod yX12_filterSuccessors, .selects RX12 yX12_filterSuccessors yX12_filterSuccessors]
set_option maxRecDepth 20000 in
theorem mi_law_4 : ∀ w ∈ wo_law_4, w ∈ lw_tbl := mem_ix [1179, 2169, 2170, 2171, 1191, 1192, 1193, 2181, 2182, 2183, 1201, 1202, 1203, 2185, 2186, 2187, 1206, 1207, 1208, 2189, 2190, 2191, 1210, 1211, 1212, 2197, 2198, 2199, 1235, 1236, 1237, 2205, 2206, 2207, 1239, 1240, 1241, 2209, 2210, 2211] (by decide +kernel)
theorem mo_law_4 {w : Cond} (i : Nat) (h : wo_law_4[i]? = some w) : w ∈ lw_tbl := mi_law_4 w (List.mem_of_getElem? h)
def wo_law_5 : List Cond := [.methodLink RL 154 yX11_filterHolds, .instanceMethod yX11_filterHolds, .selects RX11 yX11_filterHolds yX11_filterHolds, .methodLink RL 157 yX12_filterHolds, .instanceMethod yX12_filterHolds, .selects RX12 yX12_filterHolds yX12_filterHolds, .methodLink RL 158 yX11_applyFilter, .instanceMethod yX11_applyFilter, .selects RX11 yX11_applyFilter yX11_applyFilter, .methodLink RL 161 yX12_applyFilter, .instanceMethod yX12_applyFilter, .selects RX12 yX12_applyFilter yX12_applyFilter, .methodLink RL 162 yX11_unfold, .instanceMethod yX11_unfold, .selects RX11 yX11_unfold yX11_unfold, .methodLink RL 165 yX12_unfold, .instanceMethod yX12_unfold, .selects RX12 yX12_unfold yX12_unfold, .methodLink RL 166 yX11_unroll, .instanceMethod yX11_unroll, .selects RX11 yX11_unroll yX11_unroll, .methodLink RL 169 yX12_unroll, .instanceMethod yX12_unroll, .selects RX12 yX12_unroll yX12_unroll, .methodLink RL 170 yX11_counterModels, .instanceMethod yX11_counterModels, .selects RX11 yX11_counterModels yX11_counterModels, .methodLink RL 173 yX12_counterModels, .instanceMethod yX12_counterModels, .selects RX12 yX12_counterModels yX12_counterModels, .methodLink RL 174 yX11_firstCounterModel, .instanceMethod yX11_firstCounterModel, .selects RX11 yX11_firstCounterModel yX11_firstCounterModel, .methodLink RL 177 yX12_firstCounterModel, .instanceMethod yX12_firstCounterModel, .selects RX12 yX12_firstCounterModel yX12_firstCounterModel, .methodLink RL 178 yX11_isValid, .instanceMethod yX11_isValid, .selects RX11 yX11_isValid yX11_isValid, .methodLink RL 181 yX12_isValid]
set_option maxRecDepth 20000 in
theorem mi_law_5 : ∀ w ∈ wo_law_5, w ∈ lw_tbl := mem_ix [1243, 1244, 1245, 2217, 2218, 2219, 1247, 1248, 1249, 2221, 2222, 2223, 1256, 1257, 1258, 2225, 2226, 2227, 1284, 1285, 1286, 2245, 2246, 2247, 1302, 1303, 1304, 2253, 2254, 2255, 1306, 1307, 1308, 2261, 2262, 2263, 1310, 1311, 1312, 2265] (by decide +kernel)
theorem mo_law_5 {w : Cond} (i : Nat) (h : wo_law_5[i]? = some w) : w ∈ lw_tbl := mi_law_5 w (List.mem_of_getElem? h)
def wo_law_6 : List Cond := [.instanceMethod yX12_isValid, .selects RX12 yX12_isValid yX12_isValid, .methodLink RL 182 yX11_isSatisfiable, .instanceMethod yX11_isSatisfiable, .selects RX11 yX11_isSatisfiable yX11_isSatisfiable, .methodLink RL 185 yX12_isSatisfiable, .instanceMethod yX12_isSatisfiable, .selects RX12 yX12_isSatisfiable yX12_isSatisfiable, .methodLink RL 186 yX11_entails, .instanceMethod yX11_entails, .selects RX11 yX11_entails yX11_entails, .methodLink RL 189 yX12_entails, .instanceMethod yX12_entails, .selects RX12 yX12_entails yX12_entails, .methodLink RL 190 yX11_compare, .instanceMethod yX11_compare, .selects RX11 yX11_compare yX11_compare, .methodLink RL 193 yX12_compare, .instanceMethod yX12_compare, .selects RX12 yX12_compare yX12_compare, .methodLink RL 194 yX11_save, .instanceMethod yX11_save, .selects RX11 yX11_save yX11_save, .methodLink RL 197 yX12_save, .instanceMethod yX12_save, .selects RX12 yX12_save yX12_save, .methodLink RL 198 yX11_restore, .instanceMethod yX11_restore, .selects RX11 yX11_restore yX11_restore, .methodLink RL 201 yX12_restore, .instanceMethod yX12_restore, .selects RX12 yX12_restore yX12_restore, .methodLink RL 202 yX11_count, .instanceMethod yX11_count, .selects RX11 yX11_count yX11_count, .methodLink RL 205 yX12_count, .instanceMethod yX12_count, .selects RX12 yX12_count yX12_count, .methodLink RL 206 yX11_allocate, .instanceMethod yX11_allocate]
set_option maxRecDepth 20000 in
theorem mi_law_6 : ∀ w ∈ wo_law_6, w ∈ lw_tbl := mem_ix [2266, 2267, 1416, 1417, 1418, 2304, 2305, 2306, 1424, 1425, 1426, 2308, 2309, 2310, 1429, 1430, 1431, 2312, 2313, 2314, 1455, 1456, 1457, 2318, 2319, 2320, 1464, 1465, 1466, 2322, 2323, 2324, 1468, 1469, 1470, 2326, 2327, 2328, 1482, 1483] (by decide +kernel)
theorem mo_law_6 {w : Cond} (i : Nat) (h : wo_law_6[i]? = some w) : w ∈ lw_tbl := mi_law_6 w (List.mem_of_getElem? h)
def wo_law_7 : List Cond := [.selects RX11 yX11_allocate yX11_allocate, .methodLink RL 209 yX12_allocate, .instanceMethod yX12_allocate, .selects RX12 yX12_allocate yX12_allocate, .constantLong RL 210 4294967295, .methodLink RL 212 yX11_store, .instanceMethod yX11_store, .selects RX11 yX11_store yX11_store, .methodLink RL 216 yX12_store, .instanceMethod yX12_store, .selects RX12 yX12_store yX12_store, .methodLink RL 217 yX11_load, .instanceMethod yX11_load, .selects RX11 yX11_load yX11_load, .methodLink RL 221 yX12_load, .instanceMethod yX12_load, .selects RX12 yX12_load yX12_load, .methodLink RL 222 yX11_copy, .instanceMethod yX11_copy, .selects RX11 yX11_copy yX11_copy, .methodLink RL 225 yX12_copy, .instanceMethod yX12_copy, .selects RX12 yX12_copy yX12_copy, .instantiable RX0 3, .instantiable RX1 6, .instantiable RX2 13, .instantiable RX3 3, .instantiable RX4 8, .instantiable RX5 5, .instantiable RX6 12, .instantiable RX7 3, .instantiable RX8 15, .instantiable RX9 4, .instantiable RX10 5, .instantiable RX11 17, .instantiable RX12 88, .classLink RL 7 RX11, .methodLink RL 9 yX11_init, .instanceMethod yX11_init, .classLink RL 10 RX12]
set_option maxRecDepth 20000 in
theorem mi_law_7 : ∀ w ∈ wo_law_7, w ∈ lw_tbl := mem_ix [1484, 2330, 2331, 2332, 2349, 1500, 1501, 1502, 2334, 2335, 2336, 1511, 1512, 1513, 2341, 2342, 2343, 1515, 1516, 1517, 2345, 2346, 2347, 206, 339, 438, 170, 270, 364, 226, 301, 386, 187, 317, 162, 1535, 161, 163, 164, 1534] (by decide +kernel)
theorem mo_law_7 {w : Cond} (i : Nat) (h : wo_law_7[i]? = some w) : w ∈ lw_tbl := mi_law_7 w (List.mem_of_getElem? h)
def wo_law_8 : List Cond := [.methodLink RL 12 yX12_init, .instanceMethod yX12_init]
set_option maxRecDepth 20000 in
theorem mi_law_8 : ∀ w ∈ wo_law_8, w ∈ lw_tbl := mem_ix [1536, 1537] (by decide +kernel)
theorem mo_law_8 {w : Cond} (i : Nat) (h : wo_law_8[i]? = some w) : w ∈ lw_tbl := mi_law_8 w (List.mem_of_getElem? h)
set_option maxRecDepth 20000 in
theorem nw_in : ∀ w ∈ nwT.map (fun t => Cond.methodLinkNest t.1 t.2.1 t.2.2 RX11), w ∈ lw_tbl := mem_ix [1441, 1490, 1499, 1454, 1001, 1185, 1188, 1002, 1364, 1339, 1328, 1335, 1340, 560, 567, 704, 781, 636, 637, 713, 714, 1270, 1273, 1027, 1038, 1066, 1100, 804, 803, 926, 920] (by decide +kernel)
